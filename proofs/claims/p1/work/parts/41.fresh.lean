/-! ===== what a run came to, told by a Bool ===== -/
def q_av : AV → AV → Bool
  | .inl a, .inl b => Nat.beq a b
  | .inr (.inl a), .inr (.inl b) => Nat.beq a b
  | .inr (.inr (.inl a)), .inr (.inr (.inl b)) => Nat.beq a b
  | .inr (.inr (.inr (a, b, c))), .inr (.inr (.inr (d, e, f))) => Nat.beq a d && (Nat.beq b e && Nat.beq c f)
  | _, _ => false
theorem q_av_eq : ∀ {x y : AV}, q_av x y = true → x = y
  | .inl a, .inl b, h => by rw [beq_iff.mp h]
  | .inr (.inl a), .inr (.inl b), h => by rw [beq_iff.mp h]
  | .inr (.inr (.inl a)), .inr (.inr (.inl b)), h => by rw [beq_iff.mp h]
  | .inr (.inr (.inr (a, b, c))), .inr (.inr (.inr (d, e, f))), h => by
    have h : (Nat.beq a d && (Nat.beq b e && Nat.beq c f)) = true := h
    simp only [Bool.and_eq_true] at h
    rw [beq_iff.mp h.1, beq_iff.mp h.2.1, beq_iff.mp h.2.2]
def q_l {α : Type} (q : α → α → Bool) : List α → List α → Bool
  | [], [] => true
  | x :: xs, y :: ys => q x y && q_l q xs ys
  | _, _ => false
theorem q_l_eq {α : Type} {q : α → α → Bool} (hq : ∀ {x y}, q x y = true → x = y) : ∀ {x y : List α}, q_l q x y = true → x = y
  | [], [], _ => rfl
  | x :: xs, y :: ys, h => by
    have h : (q x y && q_l q xs ys) = true := h
    simp only [Bool.and_eq_true] at h
    rw [hq h.1, q_l_eq hq h.2]
def q_o {α : Type} (q : α → α → Bool) : Option α → Option α → Bool
  | none, none => true
  | some x, some y => q x y
  | _, _ => false
theorem q_o_eq {α : Type} {q : α → α → Bool} (hq : ∀ {x y}, q x y = true → x = y) : ∀ {x y : Option α}, q_o q x y = true → x = y
  | none, none, _ => rfl
  | some x, some y, h => by rw [hq (show q x y = true from h)]
def q_ac : AC → AC → Bool
  | .inl (a, b, c), .inl (d, e, f) => Nat.beq a d && (Nat.beq b e && Nat.beq c f)
  | .inr (.inl (a, b)), .inr (.inl (c, d)) => Nat.beq a c && Nat.beq b d
  | .inr (.inr (a, b, c)), .inr (.inr (d, e, f)) => Nat.beq a d && (Nat.beq b e && q_o (q_l Nat.beq) c f)
  | _, _ => false
theorem q_ac_eq : ∀ {x y : AC}, q_ac x y = true → x = y
  | .inl (a, b, c), .inl (d, e, f), h => by
    have h : (Nat.beq a d && (Nat.beq b e && Nat.beq c f)) = true := h
    simp only [Bool.and_eq_true] at h
    rw [beq_iff.mp h.1, beq_iff.mp h.2.1, beq_iff.mp h.2.2]
  | .inr (.inl (a, b)), .inr (.inl (c, d)), h => by
    have h : (Nat.beq a c && Nat.beq b d) = true := h
    simp only [Bool.and_eq_true] at h
    rw [beq_iff.mp h.1, beq_iff.mp h.2]
  | .inr (.inr (a, b, c)), .inr (.inr (d, e, f)), h => by
    have h : (Nat.beq a d && (Nat.beq b e && q_o (q_l Nat.beq) c f)) = true := h
    simp only [Bool.and_eq_true] at h
    rw [beq_iff.mp h.1, beq_iff.mp h.2.1, q_o_eq (q_l_eq beq_iff.mp) h.2.2]
def q_h : AH → AH → Bool := q_l (q_l q_ac)
theorem q_h_eq {x y : AH} (h : q_h x y = true) : x = y := q_l_eq (q_l_eq q_ac_eq) h
/-- the run's answer and heap -/
def q_end (v : Option AV) (h : AH) : AO → Bool
  | some (.inl (w, g)) => q_o q_av w v && q_h g h
  | _ => false
theorem q_end_eq {v : Option AV} {h : AH} : ∀ {r : AO}, q_end v h r = true → r = some (.inl (v, h))
  | some (.inl (w, g)), e => by
    have e : (q_o q_av w v && q_h g h) = true := e
    simp only [Bool.and_eq_true] at e
    rw [q_o_eq q_av_eq e.1, q_h_eq e.2]
/-- a stop -/
def q_stop (n : Nat) (L : ALs) (S : ASt) (h : AH) : AO → Bool
  | some (.inr (m, L1, S1, h1)) => Nat.beq m n && (q_l (q_o q_av) L1 L && (q_l q_av S1 S && q_h h1 h))
  | _ => false
theorem q_stop_eq {n : Nat} {L : ALs} {S : ASt} {h : AH} : ∀ {r : AO}, q_stop n L S h r = true → r = some (.inr (n, L, S, h))
  | some (.inr (m, L1, S1, h1)), e => by
    have e : (Nat.beq m n && (q_l (q_o q_av) L1 L && (q_l q_av S1 S && q_h h1 h))) = true := e
    simp only [Bool.and_eq_true] at e
    rw [beq_iff.mp e.1, q_l_eq (q_o_eq q_av_eq) e.2.1, q_l_eq q_av_eq e.2.2.1, q_h_eq e.2.2.2]
/-- the answer alone: an int -/
def q_ans (n : Nat) : AO → Bool
  | some (.inl (some (.inl m), _)) => Nat.beq m n
  | _ => false
theorem q_ans_ex {n : Nat} : ∀ {r : AO}, q_ans n r = true → ∃ h, r = some (.inl (some (aI n), h))
  | some (.inl (some (.inl m), h)), e => ⟨h, by rw [beq_iff.mp (show Nat.beq m n = true from e)]⟩

/-! ===== the fresh objects ===== -/
def k_HX : AH := [[Sum.inr (Sum.inl (8, 75591227326743116621030474633795525014995109262771861583732386102170725694522711884665049584939611304858525444079275061256838505958473730)), Sum.inl (3, 6, 26307029477060488032431141891180906213094992117763), Sum.inr (Sum.inl (0, 31385508676933403820540076583722085934365275652047245410304)), Sum.inl (0, 8, 0), Sum.inl (0, 8, 0), Sum.inr (Sum.inl (0, 50216813883093446113068291954107900573062465807734653583360)), Sum.inl (0, 8, 0), Sum.inl (0, 8, 0)],
  [Sum.inr (Sum.inl (0, 69048119089253488405596507324493715211759655963422061756416)), Sum.inl (0, 8, 0), Sum.inl (0, 8, 0), Sum.inr (Sum.inl (0, 87879424295413530698124722694879529850456846119109469929472)), Sum.inl (0, 8, 0), Sum.inl (0, 8, 0), Sum.inr (Sum.inl (0, 106710729501573572990652938065265344489154036274796878102528)), Sum.inl (0, 8, 0)],
  [Sum.inl (0, 8, 0), Sum.inr (Sum.inl (0, 125542034707733615283181153435651159127851226430484286275584)), Sum.inl (0, 8, 0), Sum.inl (0, 8, 0), Sum.inl (4, 10, 33320656846634814558660931702452393115874030226973460412754101352626936734602784667598870), Sum.inr (Sum.inl (1, 340282366920938463924543209274507001879)), Sum.inr (Sum.inl (5, 442721857769029239104)), Sum.inl (2, 1600, 0)],
  [Sum.inr (Sum.inl (5, 479615345916448342336)), Sum.inl (2, 1600, 0), Sum.inr (Sum.inl (1, 340282366920938464016776929643054759964)), Sum.inr (Sum.inl (5, 534955578137576997184)), Sum.inl (2, 1600, 0), Sum.inr (Sum.inl (5, 571849066284996100416)), Sum.inl (2, 1600, 0), Sum.inr (Sum.inl (1, 340282366920938464109010650011602518049))],
  [Sum.inr (Sum.inl (5, 627189298506124755264)), Sum.inl (2, 1600, 0), Sum.inr (Sum.inl (5, 664082786653543858496)), Sum.inl (2, 1600, 0), Sum.inr (Sum.inl (1, 340282366920938464201244370380150276134)), Sum.inr (Sum.inl (5, 719423018874672513344)), Sum.inl (2, 1600, 0), Sum.inr (Sum.inl (5, 756316507022091616576))],
  [Sum.inl (2, 1600, 0), Sum.inr (Sum.inl (1, 340282366920938464293478090748698034219)), Sum.inr (Sum.inl (5, 811656739243220271424)), Sum.inl (2, 1600, 0), Sum.inr (Sum.inl (5, 848550227390639374656)), Sum.inl (2, 1600, 0), Sum.inr (Sum.inl (1, 340282366920938464385711811117245792304)), Sum.inr (Sum.inl (5, 903890459611768029504))],
  [Sum.inl (2, 1600, 0), Sum.inr (Sum.inl (5, 940783947759187132736)), Sum.inl (2, 1600, 0), Sum.inr (Sum.inl (1, 340282366920938464477945531485793550389)), Sum.inr (Sum.inl (5, 996124179980315787584)), Sum.inl (2, 1600, 0), Sum.inr (Sum.inl (5, 1033017668127734890816)), Sum.inl (2, 1600, 0)],
  [Sum.inr (Sum.inl (1, 340282366920938464570179251854341308474)), Sum.inr (Sum.inl (5, 1088357900348863545664)), Sum.inl (2, 1600, 0), Sum.inr (Sum.inl (5, 1125251388496282648896)), Sum.inl (2, 1600, 0), Sum.inr (Sum.inl (1, 340282366920938464662412972222889066559)), Sum.inr (Sum.inl (5, 1180591620717411303744)), Sum.inl (2, 1600, 0)],
  [Sum.inr (Sum.inl (5, 1217485108864830406976)), Sum.inl (2, 1600, 0), Sum.inr (Sum.inl (1, 340282366920938464754646692591436824644)), Sum.inr (Sum.inl (5, 1272825341085959061824)), Sum.inl (2, 1600, 0), Sum.inr (Sum.inl (5, 1309718829233378165056)), Sum.inl (2, 1600, 0), Sum.inr (Sum.inl (1, 340282366920938464846880412959984582729))],
  [Sum.inr (Sum.inl (5, 1365059061454506819585)), Sum.inl (2, 5, 0), Sum.inr (Sum.inl (5, 1401952549601925922817)), Sum.inl (2, 5, 0), Sum.inr (Sum.inl (3, 502168138830934461133745460843367451903233875581981794762752)), Sum.inl (0, 2, 0), Sum.inl (0, 32, 0), Sum.inl (0, 32, 0)],
  [Sum.inr (Sum.inl (7, 67596001359491440824712098703652713782610557066366673983671666194090418403509307346968480659089794938364820367930613942335952889483100160)), Sum.inr (Sum.inl (5, 1531079758117892784448)), Sum.inl (2, 1600, 0), Sum.inr (Sum.inl (5, 1567973246265311887680)), Sum.inl (2, 1600, 0), Sum.inr (Sum.inl (5, 1604866734412730990912)), Sum.inl (2, 1600, 0), Sum.inr (Sum.inl (5, 1641760222560150094144))],
  [Sum.inl (2, 1600, 0), Sum.inr (Sum.inl (5, 1678653710707569197062)), Sum.inl (2, 30, 0), Sum.inl (0, 1024, 0), Sum.inl (0, 10, 0), Sum.inr (Sum.inl (2, 615155970067894714888914753065682339735749057909433015730271)), Sum.inl (1, 320, 0), Sum.inl (0, 320, 0)],
  [Sum.inl (0, 320, 0), Sum.inl (0, 320, 0), Sum.inr (Sum.inl (6, 646541478744828118709795112016325364133669941889280577110116)), Sum.inl (1, 320, 0), Sum.inl (2, 320, 0), Sum.inl (2, 320, 0), Sum.inl (0, 320, 0), Sum.inr (Sum.inl (4, 105))],
  [Sum.inl (0, 8192, 0)]]
def k_HM : AH := [[Sum.inr (Sum.inl (9, 2416004710283417882112536399490603192025371587878763870850202141750697982867381131977650316889062172592157632654473852066311849122763758570683276955967368030214479260637646179103277759843585208432209557322033448407103287791196271820918871407068705289284565200439723329140441644806017418348837316423228982626988202997764455657234894109765096848926856518293745375261511487292503644920210360430342485747649942328688073585206808746121137854598841432420300086016795490002512589926911087896022322575143434903732964245948670799967963272041211589132158259031662878875761939588838856934848471976047136310123119540098625028605237547543579898886624847771891785200813986308965470699217312256864863750647156550204082566727729154)), Sum.inl (0, 6, 0), Sum.inl (0, 48, 0), Sum.inl (0, 6, 0), Sum.inl (0, 10, 497323236525578731419658390243819566640659256139144307488153203229972377654773399158785), Sum.inl (0, 5200, 0), Sum.inl (0, 5200, 0), Sum.inl (0, 5200, 0)],
  [Sum.inl (0, 5200, 0), Sum.inl (0, 200000, 0), Sum.inl (0, 1601, 0), Sum.inl (0, 1601, 0), Sum.inl (0, 1601, 0), Sum.inl (0, 1601, 0), Sum.inl (0, 1601, 0), Sum.inl (0, 200000, 0)],
  [Sum.inl (1, 2563201, 0), Sum.inl (0, 1600, 0), Sum.inl (0, 1600, 0), Sum.inl (0, 1600, 0), Sum.inl (0, 1600, 0), Sum.inl (0, 2000, 0), Sum.inl (1, 65536, 0), Sum.inl (0, 65536, 0)],
  [Sum.inl (1, 520, 0), Sum.inl (2, 520, 0), Sum.inl (0, 520, 0), Sum.inl (2, 1040, 0), Sum.inl (0, 1040, 0), Sum.inl (0, 12, 0), Sum.inl (1, 8192, 0), Sum.inl (0, 1600, 0)],
  [Sum.inl (0, 1600, 0), Sum.inl (0, 1600, 0), Sum.inl (0, 1600, 0)]]
set_option maxRecDepth 100000 in
theorem init_HX : mb_103_0 (a_run k_BT 1000) [some (aR 1), none] [] [[Sum.inr (Sum.inl (8, 0))]] = some (Sum.inl (none, k_HX)) := q_end_eq (by decide +kernel)
set_option maxRecDepth 100000 in
theorem init_HM : mb_135_0 (a_run k_BT 1000) [some (aR 1), none] [] [[Sum.inr (Sum.inl (9, 0))]] = some (Sum.inl (none, k_HM)) := q_end_eq (by decide +kernel)
