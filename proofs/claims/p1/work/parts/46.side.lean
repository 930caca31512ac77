abbrev Z_X : Nat := 50555
abbrev Z_M : Nat := 3149830
/-! ===== the two sides of a call ===== -/
/-- a run's answer, with no cell made -/
def q_1 (n c z : Nat) : AO → Bool
  | some (.inl (some (.inl m), h1)) => Nat.beq m n && (Nat.beq (a_cnt h1) c && Nat.beq (a_slt h1) z)
  | _ => false
theorem q_1_ex {n c z : Nat} : ∀ {x : AO}, q_1 n c z x = true → ∃ h1, x = some (.inl (some (aI n), h1)) ∧ a_cnt h1 = c ∧ a_slt h1 = z
  | some (.inl (some (.inl m), h1)), h => by
    have h : (Nat.beq m n && (Nat.beq (a_cnt h1) c && Nat.beq (a_slt h1) z)) = true := h
    simp only [Bool.and_eq_true] at h
    obtain ⟨q1, q2, q3⟩ := h
    have q1 := beq_iff.mp q1
    subst q1
    exact ⟨h1, rfl, beq_iff.mp q2, beq_iff.mp q3⟩
def k_l (l : List Nat) (i : Nat) : Nat := l.getD i 0
/-- the class's cells in another order, as h tells them -/
def TrX (σ : List Nat) (gv : Nat → Int32) (h : AH) : Prop := (∀ i ∈ σ, i < 105) ∧ (∀ (i j x : Nat), σ[i]? = some x → σ[j]? = some x → i = j) ∧ σ[0]? = some 0 ∧ σ.length = 105 ∧ a_cnt h = 105 ∧ a_slt h = Z_X ∧
  ∀ (cA : Nat → ClassId) (ws : va_W), ws.length = 105 → (∀ c x, hlook k_HX c = some x → ∃ a e, ws[c]? = some (a, e) ∧ cR gv cA (adr ws) x e) → ∀ c x, hlook h c = some x → ∃ a e, (a_pm σ ws)[c]? = some (a, e) ∧ cR gv cA (adr (a_pm σ ws)) x e
def q_inv (σ : List Nat) : Bool := q_all (fun k => match σ[k]? with
  | some i => q_nth σ i k && Nat.ble (Nat.succ i) 105
  | none => false) 105
theorem q_inv_ok {σ : List Nat} (hl : σ.length = 105) (h : q_inv σ = true) : (∀ i ∈ σ, i < 105) ∧ ∀ (i j x : Nat), σ[i]? = some x → σ[j]? = some x → i = j := by
  have key : ∀ k x, σ[k]? = some x → σ[x]? = some k ∧ x < 105 := by
    intro k x hx
    have hk : k < 105 := by rw [← hl]; exact (List.getElem?_eq_some_iff.mp hx).1
    have := q_all_at h k hk
    rw [hx] at this
    have this : (q_nth σ x k && Nat.ble (Nat.succ x) 105) = true := this
    simp only [Bool.and_eq_true] at this
    exact ⟨q_nth_eq this.1, ble_iff.mp this.2⟩
  refine ⟨fun i hi => ?_, fun i j x h1 h2 => ?_⟩
  · obtain ⟨k, hk⟩ := List.mem_iff_getElem?.mp hi
    exact (key k i hk).2
  · have e1 := (key i x h1).1
    have e2 := (key j x h2).1
    rw [e1] at e2
    exact Option.some.inj e2
theorem cnt_cons (l : List AC) (h : AH) : a_cnt (l :: h) = l.length + a_cnt h := rfl
theorem hlook_lt : ∀ (h : AH), (∀ l ∈ h.dropLast, l.length = 8) → ∀ c x, hlook h c = some x → c < a_cnt h
  | [], _, c, x, hx => by cases hx
  | [l], _, c, x, hx => by
    obtain ⟨l', h1, h2⟩ := Option.bind_eq_some_iff.mp hx
    have h3 : c / 8 = 0 := by
      have := (List.getElem?_eq_some_iff.mp h1).1
      have this : c / 8 < 1 := this
      omega
    rw [h3] at h1
    cases h1
    have h4 := (List.getElem?_eq_some_iff.mp h2).1
    show c < l.length + 0
    omega
  | l :: m :: h, hq, c, x, hx => by
    have hl : l.length = 8 := hq l (by rw [List.dropLast_cons_of_ne_nil (by intro z; cases z)]; exact List.mem_cons_self)
    rw [cnt_cons, hl]
    by_cases hc : c < 8
    · omega
    · have e1 : c / 8 = (c - 8) / 8 + 1 := by omega
      have e2 : c % 8 = (c - 8) % 8 := by omega
      have hx2 : hlook (m :: h) (c - 8) = some x := by
        unfold hlook at hx ⊢
        rw [e1, e2] at hx
        exact hx
      have := hlook_lt (m :: h) (fun l' hl' => hq l' (by rw [List.dropLast_cons_of_ne_nil (by intro z; cases z)]; exact List.mem_cons_of_mem _ hl')) (c - 8) x hx2
      omega
theorem hlook_105 {h : AH} (hn : (∀ l ∈ h.dropLast, l.length = 8) ∧ h.length = 14 ∧ a_cnt h = 105) (c : Nat) (x : AC) (hx : hlook h c = some x) : c < 105 := by
  have := hlook_lt h hn.1 c x hx
  rw [hn.2.2] at this
  exact this
theorem TrX_of {gv : Nat → Int32} {σ : List Nat} {h : AH} {sp : Nat} {ss cs : List Nat} (hl : σ.length = 105) (hi : q_inv σ = true) (h0 : σ[0]? = some 0) (hq : q_pm σ k_HX h sp 105 ss cs = true) (hn : (∀ l ∈ h.dropLast, l.length = 8) ∧ h.length = 14 ∧ a_cnt h = 105) (hz : a_slt h = Z_X) (hgv : ∀ (q s : Nat), ss[q]? = some s → gv q = a_i32 s) : TrX σ gv h := by
  obtain ⟨i1, i2⟩ := q_inv_ok hl hi
  refine ⟨i1, i2, h0, hl, hn.2.2, hz, fun cA ws hw hR => ?_⟩
  refine q_pm_ok hq (fun c x hx => ?_) (fun i hi => by rw [hw]; exact i1 i hi) hgv hR
  exact hlook_105 hn c x hx
/-- an answer of the class -/
def SideX (M : AM) (pad : ALs) (gv : Nat → Int32) (xs : List Int32) (n : Nat) : Prop := ∃ (σ : List Nat) (h h1 : AH) (As : List AV), TrX σ gv h ∧ (∀ ad, SR gv ad As (xs.map Value.int)) ∧ a_cnt h1 = 105 ∧ a_slt h1 = Z_X ∧ CG gv M 0 (a_lay (aR 1 :: As) ++ pad) [] h (.inl (some (aI n), h1))
/-- an answer of the reference -/
def SideM (M : AM) (pad : ALs) (gv : Nat → Int32) (xs : List Int32) (n : Nat) : Prop := ∃ (h1 : AH) (As : List AV), (∀ ad, SR gv ad As (xs.map Value.int)) ∧ a_cnt h1 = 35 ∧ a_slt h1 = Z_M ∧ CG gv M 0 (a_lay (aR 1 :: As) ++ pad) [] k_HM (.inl (some (aI n), h1))
/-- the answers are the same -/
def OpQ (MX : AM) (pX : ALs) (MM : AM) (pM : ALs) (xs : List Int32) : Prop := ∃ gv n, SideX MX pX gv xs n ∧ SideM MM pM gv xs n
theorem SideX_of {M : AM} {pad : ALs} {gv : Nat → Int32} {xs : List Int32} {n : Nat} {σ : List Nat} {h : AH} {k : AK} (As : List AV) (hk : Sound M 0 k) (hT : TrX σ gv h) (hA : ∀ ad, SR gv ad As (xs.map Value.int)) (hq : q_1 n 105 Z_X (k (a_lay (aR 1 :: As) ++ pad) [] h) = true) : SideX M pad gv xs n := by
  obtain ⟨h1, e1, e2, e3⟩ := q_1_ex hq
  exact ⟨σ, h, h1, As, hT, hA, e2, e3, CG_run hk e1⟩
theorem SideM_of {M : AM} {pad : ALs} {gv : Nat → Int32} {xs : List Int32} {n : Nat} {k : AK} (As : List AV) (hk : Sound M 0 k) (hA : ∀ ad, SR gv ad As (xs.map Value.int)) (hq : q_1 n 35 Z_M (k (a_lay (aR 1 :: As) ++ pad) [] k_HM) = true) : SideM M pad gv xs n := by
  obtain ⟨h1, e1, e2, e3⟩ := q_1_ex hq
  exact ⟨h1, As, hA, e2, e3, CG_run hk e1⟩

/-- the fresh object, its SPOTS told by ghosts -/
def k_HXs (cs : List Nat) : AH := [[Sum.inr (Sum.inl (8, 75591227326743116621030474633795525014995109262771861583732386102170725694522711884665049584939611304858525444079275061256838505958473730)), Sum.inl (3, 6, 26307029477060488032431141891180906213094992117763), Sum.inr (Sum.inl (0, 31385508676933403820540076583722085934365275652047245410304)), Sum.inl (0, 8, 0), Sum.inl (0, 8, 0), Sum.inr (Sum.inl (0, 50216813883093446113068291954107900573062465807734653583360)), Sum.inl (0, 8, 0), Sum.inl (0, 8, 0)],
  [Sum.inr (Sum.inl (0, 69048119089253488405596507324493715211759655963422061756416)), Sum.inl (0, 8, 0), Sum.inl (0, 8, 0), Sum.inr (Sum.inl (0, 87879424295413530698124722694879529850456846119109469929472)), Sum.inl (0, 8, 0), Sum.inl (0, 8, 0), Sum.inr (Sum.inl (0, 106710729501573572990652938065265344489154036274796878102528)), Sum.inl (0, 8, 0)],
  [Sum.inl (0, 8, 0), Sum.inr (Sum.inl (0, 125542034707733615283181153435651159127851226430484286275584)), Sum.inl (0, 8, 0), Sum.inl (0, 8, 0), Sum.inr (Sum.inr (4, 10, some cs)), Sum.inr (Sum.inl (1, 340282366920938463924543209274507001879)), Sum.inr (Sum.inl (5, 442721857769029239104)), Sum.inl (2, 1600, 0)],
  [Sum.inr (Sum.inl (5, 479615345916448342336)), Sum.inl (2, 1600, 0), Sum.inr (Sum.inl (1, 340282366920938464016776929643054759964)), Sum.inr (Sum.inl (5, 534955578137576997184)), Sum.inl (2, 1600, 0), Sum.inr (Sum.inl (5, 571849066284996100416)), Sum.inl (2, 1600, 0), Sum.inr (Sum.inl (1, 340282366920938464109010650011602518049))],
  [Sum.inr (Sum.inl (5, 627189298506124755264)), Sum.inl (2, 1600, 0), Sum.inr (Sum.inl (5, 664082786653543858496)), Sum.inl (2, 1600, 0), Sum.inr (Sum.inl (1, 340282366920938464201244370380150276134)), Sum.inr (Sum.inl (5, 719423018874672513344)), Sum.inl (2, 1600, 0), Sum.inr (Sum.inl (5, 756316507022091616576))],
  [Sum.inl (2, 1600, 0), Sum.inr (Sum.inl (1, 340282366920938464293478090748698034219)), Sum.inr (Sum.inl (5, 811656739243220271424)), Sum.inl (2, 1600, 0), Sum.inr (Sum.inl (5, 848550227390639374656)), Sum.inl (2, 1600, 0), Sum.inr (Sum.inl (1, 340282366920938464385711811117245792304)), Sum.inr (Sum.inl (5, 903890459611768029504))],
  [Sum.inl (2, 1600, 0), Sum.inr (Sum.inl (5, 940783947759187132736)), Sum.inl (2, 1600, 0), Sum.inr (Sum.inl (1, 340282366920938464477945531485793550389)), Sum.inr (Sum.inl (5, 996124179980315787584)), Sum.inl (2, 1600, 0), Sum.inr (Sum.inl (5, 1033017668127734890816)), Sum.inl (2, 1600, 0)],
  [Sum.inr (Sum.inl (1, 340282366920938464570179251854341308474)), Sum.inr (Sum.inl (5, 1088357900348863545664)), Sum.inl (2, 1600, 0), Sum.inr (Sum.inl (5, 1125251388496282648896)), Sum.inl (2, 1600, 0), Sum.inr (Sum.inl (1, 340282366920938464662412972222889066559)), Sum.inr (Sum.inl (5, 1180591620717411303744)), Sum.inl (2, 1600, 0)],
  [Sum.inr (Sum.inl (5, 1217485108864830406976)), Sum.inl (2, 1600, 0), Sum.inr (Sum.inl (1, 340282366920938464754646692591436824644)), Sum.inr (Sum.inl (5, 1272825341085959061824)), Sum.inl (2, 1600, 0), Sum.inr (Sum.inl (5, 1309718829233378165056)), Sum.inl (2, 1600, 0), Sum.inr (Sum.inl (1, 340282366920938464846880412959984582729))],
  [Sum.inr (Sum.inl (5, 1365059061454506819585)), Sum.inl (2, 5, 0), Sum.inr (Sum.inl (5, 1401952549601925922817)), Sum.inl (2, 5, 0), Sum.inr (Sum.inl (3, 502168138830934461133745460843367451903233875581981794762752)), Sum.inl (0, 2, 0), Sum.inl (0, 32, 0), Sum.inl (0, 32, 0)],
  [Sum.inr (Sum.inl (7, 67596001359491440824712098703652713782610557066366673983671666194090418403509307346968480659089794938364820367930613942335952889483100160)), Sum.inr (Sum.inl (5, 1531079758117892784448)), Sum.inl (2, 1600, 0), Sum.inr (Sum.inl (5, 1567973246265311887680)), Sum.inl (2, 1600, 0), Sum.inr (Sum.inl (5, 1604866734412730990912)), Sum.inl (2, 1600, 0), Sum.inr (Sum.inl (5, 1641760222560150094144))],
  [Sum.inl (2, 1600, 0), Sum.inr (Sum.inl (5, 1678653710707569197062)), Sum.inl (2, 30, 0), Sum.inl (0, 1024, 0), Sum.inl (0, 10, 0), Sum.inr (Sum.inl (2, 615155970067894714888914753065682339735749057909433015730271)), Sum.inl (1, 320, 0), Sum.inl (0, 320, 0)],
  [Sum.inl (0, 320, 0), Sum.inl (0, 320, 0), Sum.inr (Sum.inl (6, 646541478744828118709795112016325364133669941889280577110116)), Sum.inl (1, 320, 0), Sum.inl (2, 320, 0), Sum.inl (2, 320, 0), Sum.inl (0, 320, 0), Sum.inr (Sum.inl (4, 105))],
  [Sum.inl (0, 8192, 0)]]
def k_id : List Nat := [0, 1, 2, 3, 4, 5, 6, 7, 8, 9, 10, 11, 12, 13, 14, 15, 16, 17, 18, 19, 20, 21, 22, 23, 24, 25, 26, 27, 28, 29, 30, 31, 32, 33, 34, 35, 36, 37, 38, 39, 40, 41, 42, 43, 44, 45, 46, 47, 48, 49, 50, 51, 52, 53, 54, 55, 56, 57, 58, 59, 60, 61, 62, 63, 64, 65, 66, 67, 68, 69, 70, 71, 72, 73, 74, 75, 76, 77, 78, 79, 80, 81, 82, 83, 84, 85, 86, 87, 88, 89, 90, 91, 92, 93, 94, 95, 96, 97, 98, 99, 100, 101, 102, 103, 104]
set_option maxRecDepth 100000 in
theorem TrX_id (gv : Nat → Int32) : TrX k_id gv k_HX := TrX_of (sp := 1000) (ss := []) (cs := []) (by decide +kernel) (by decide +kernel) (by decide +kernel) (by decide +kernel) ⟨by decide +kernel, by decide +kernel, by decide +kernel⟩ (by decide +kernel) (fun q s h => by cases h)
def k_sg0 : List Nat := [0, 1, 2, 3, 4, 5, 6, 7, 8, 9, 10, 11, 12, 13, 14, 15, 16, 17, 18, 19, 20, 21, 22, 23, 24, 25, 26, 27, 28, 29, 30, 31, 32, 33, 34, 35, 36, 37, 38, 39, 40, 41, 42, 43, 44, 45, 46, 47, 48, 49, 50, 51, 52, 53, 54, 55, 56, 57, 58, 59, 60, 61, 62, 63, 64, 65, 66, 67, 68, 69, 70, 71, 72, 73, 74, 75, 76, 77, 78, 79, 80, 81, 82, 83, 84, 85, 86, 87, 88, 89, 90, 91, 92, 93, 94, 95, 96, 97, 98, 99, 100, 101, 102, 103, 104]
set_option maxRecDepth 100000 in
theorem TrX_0 {gv : Nat → Int32} (hg : gv 0 = a_i32 0) : TrX k_sg0 gv (k_HXs [21]) := TrX_of (sp := 20) (ss := [0]) (cs := [21]) (by decide +kernel) (by decide +kernel) (by decide +kernel) (by decide +kernel) ⟨by decide +kernel, by decide +kernel, by decide +kernel⟩ (by decide +kernel) (fun q s h => by
  match q, h with
  | 0, h => cases h; exact hg
  | q + 1, h => cases h)
def k_sg1 : List Nat := [0, 1, 2, 3, 4, 5, 6, 7, 8, 9, 10, 11, 12, 13, 14, 15, 16, 17, 18, 19, 20, 26, 27, 28, 29, 30, 21, 22, 23, 24, 25, 31, 32, 33, 34, 35, 36, 37, 38, 39, 40, 41, 42, 43, 44, 45, 46, 47, 48, 49, 50, 51, 52, 53, 54, 55, 56, 57, 58, 59, 60, 61, 62, 63, 64, 65, 66, 67, 68, 69, 70, 71, 72, 73, 74, 75, 76, 77, 78, 79, 80, 81, 82, 83, 84, 85, 86, 87, 88, 89, 90, 91, 92, 93, 94, 95, 96, 97, 98, 99, 100, 101, 102, 103, 104]
set_option maxRecDepth 100000 in
theorem TrX_1 {gv : Nat → Int32} (hg : gv 0 = a_i32 1) : TrX k_sg1 gv (k_HXs [21]) := TrX_of (sp := 20) (ss := [1]) (cs := [21]) (by decide +kernel) (by decide +kernel) (by decide +kernel) (by decide +kernel) ⟨by decide +kernel, by decide +kernel, by decide +kernel⟩ (by decide +kernel) (fun q s h => by
  match q, h with
  | 0, h => cases h; exact hg
  | q + 1, h => cases h)
def k_sg2 : List Nat := [0, 1, 2, 3, 4, 5, 6, 7, 8, 9, 10, 11, 12, 13, 14, 15, 16, 17, 18, 19, 20, 31, 32, 33, 34, 35, 26, 27, 28, 29, 30, 21, 22, 23, 24, 25, 36, 37, 38, 39, 40, 41, 42, 43, 44, 45, 46, 47, 48, 49, 50, 51, 52, 53, 54, 55, 56, 57, 58, 59, 60, 61, 62, 63, 64, 65, 66, 67, 68, 69, 70, 71, 72, 73, 74, 75, 76, 77, 78, 79, 80, 81, 82, 83, 84, 85, 86, 87, 88, 89, 90, 91, 92, 93, 94, 95, 96, 97, 98, 99, 100, 101, 102, 103, 104]
set_option maxRecDepth 100000 in
theorem TrX_2 {gv : Nat → Int32} (hg : gv 0 = a_i32 2) : TrX k_sg2 gv (k_HXs [21]) := TrX_of (sp := 20) (ss := [2]) (cs := [21]) (by decide +kernel) (by decide +kernel) (by decide +kernel) (by decide +kernel) ⟨by decide +kernel, by decide +kernel, by decide +kernel⟩ (by decide +kernel) (fun q s h => by
  match q, h with
  | 0, h => cases h; exact hg
  | q + 1, h => cases h)
def k_sg3 : List Nat := [0, 1, 2, 3, 4, 5, 6, 7, 8, 9, 10, 11, 12, 13, 14, 15, 16, 17, 18, 19, 20, 36, 37, 38, 39, 40, 26, 27, 28, 29, 30, 31, 32, 33, 34, 35, 21, 22, 23, 24, 25, 41, 42, 43, 44, 45, 46, 47, 48, 49, 50, 51, 52, 53, 54, 55, 56, 57, 58, 59, 60, 61, 62, 63, 64, 65, 66, 67, 68, 69, 70, 71, 72, 73, 74, 75, 76, 77, 78, 79, 80, 81, 82, 83, 84, 85, 86, 87, 88, 89, 90, 91, 92, 93, 94, 95, 96, 97, 98, 99, 100, 101, 102, 103, 104]
set_option maxRecDepth 100000 in
theorem TrX_3 {gv : Nat → Int32} (hg : gv 0 = a_i32 3) : TrX k_sg3 gv (k_HXs [21]) := TrX_of (sp := 20) (ss := [3]) (cs := [21]) (by decide +kernel) (by decide +kernel) (by decide +kernel) (by decide +kernel) ⟨by decide +kernel, by decide +kernel, by decide +kernel⟩ (by decide +kernel) (fun q s h => by
  match q, h with
  | 0, h => cases h; exact hg
  | q + 1, h => cases h)
def k_sg4 : List Nat := [0, 1, 2, 3, 4, 5, 6, 7, 8, 9, 10, 11, 12, 13, 14, 15, 16, 17, 18, 19, 20, 41, 42, 43, 44, 45, 26, 27, 28, 29, 30, 31, 32, 33, 34, 35, 36, 37, 38, 39, 40, 21, 22, 23, 24, 25, 46, 47, 48, 49, 50, 51, 52, 53, 54, 55, 56, 57, 58, 59, 60, 61, 62, 63, 64, 65, 66, 67, 68, 69, 70, 71, 72, 73, 74, 75, 76, 77, 78, 79, 80, 81, 82, 83, 84, 85, 86, 87, 88, 89, 90, 91, 92, 93, 94, 95, 96, 97, 98, 99, 100, 101, 102, 103, 104]
set_option maxRecDepth 100000 in
theorem TrX_4 {gv : Nat → Int32} (hg : gv 0 = a_i32 4) : TrX k_sg4 gv (k_HXs [21]) := TrX_of (sp := 20) (ss := [4]) (cs := [21]) (by decide +kernel) (by decide +kernel) (by decide +kernel) (by decide +kernel) ⟨by decide +kernel, by decide +kernel, by decide +kernel⟩ (by decide +kernel) (fun q s h => by
  match q, h with
  | 0, h => cases h; exact hg
  | q + 1, h => cases h)
def k_sg5 : List Nat := [0, 1, 2, 3, 4, 5, 6, 7, 8, 9, 10, 11, 12, 13, 14, 15, 16, 17, 18, 19, 20, 46, 47, 48, 49, 50, 26, 27, 28, 29, 30, 31, 32, 33, 34, 35, 36, 37, 38, 39, 40, 41, 42, 43, 44, 45, 21, 22, 23, 24, 25, 51, 52, 53, 54, 55, 56, 57, 58, 59, 60, 61, 62, 63, 64, 65, 66, 67, 68, 69, 70, 71, 72, 73, 74, 75, 76, 77, 78, 79, 80, 81, 82, 83, 84, 85, 86, 87, 88, 89, 90, 91, 92, 93, 94, 95, 96, 97, 98, 99, 100, 101, 102, 103, 104]
set_option maxRecDepth 100000 in
theorem TrX_5 {gv : Nat → Int32} (hg : gv 0 = a_i32 5) : TrX k_sg5 gv (k_HXs [21]) := TrX_of (sp := 20) (ss := [5]) (cs := [21]) (by decide +kernel) (by decide +kernel) (by decide +kernel) (by decide +kernel) ⟨by decide +kernel, by decide +kernel, by decide +kernel⟩ (by decide +kernel) (fun q s h => by
  match q, h with
  | 0, h => cases h; exact hg
  | q + 1, h => cases h)
def k_sg6 : List Nat := [0, 1, 2, 3, 4, 5, 6, 7, 8, 9, 10, 11, 12, 13, 14, 15, 16, 17, 18, 19, 20, 51, 52, 53, 54, 55, 26, 27, 28, 29, 30, 31, 32, 33, 34, 35, 36, 37, 38, 39, 40, 41, 42, 43, 44, 45, 46, 47, 48, 49, 50, 21, 22, 23, 24, 25, 56, 57, 58, 59, 60, 61, 62, 63, 64, 65, 66, 67, 68, 69, 70, 71, 72, 73, 74, 75, 76, 77, 78, 79, 80, 81, 82, 83, 84, 85, 86, 87, 88, 89, 90, 91, 92, 93, 94, 95, 96, 97, 98, 99, 100, 101, 102, 103, 104]
set_option maxRecDepth 100000 in
theorem TrX_6 {gv : Nat → Int32} (hg : gv 0 = a_i32 6) : TrX k_sg6 gv (k_HXs [21]) := TrX_of (sp := 20) (ss := [6]) (cs := [21]) (by decide +kernel) (by decide +kernel) (by decide +kernel) (by decide +kernel) ⟨by decide +kernel, by decide +kernel, by decide +kernel⟩ (by decide +kernel) (fun q s h => by
  match q, h with
  | 0, h => cases h; exact hg
  | q + 1, h => cases h)
def k_sg7 : List Nat := [0, 1, 2, 3, 4, 5, 6, 7, 8, 9, 10, 11, 12, 13, 14, 15, 16, 17, 18, 19, 20, 56, 57, 58, 59, 60, 26, 27, 28, 29, 30, 31, 32, 33, 34, 35, 36, 37, 38, 39, 40, 41, 42, 43, 44, 45, 46, 47, 48, 49, 50, 51, 52, 53, 54, 55, 21, 22, 23, 24, 25, 61, 62, 63, 64, 65, 66, 67, 68, 69, 70, 71, 72, 73, 74, 75, 76, 77, 78, 79, 80, 81, 82, 83, 84, 85, 86, 87, 88, 89, 90, 91, 92, 93, 94, 95, 96, 97, 98, 99, 100, 101, 102, 103, 104]
set_option maxRecDepth 100000 in
theorem TrX_7 {gv : Nat → Int32} (hg : gv 0 = a_i32 7) : TrX k_sg7 gv (k_HXs [21]) := TrX_of (sp := 20) (ss := [7]) (cs := [21]) (by decide +kernel) (by decide +kernel) (by decide +kernel) (by decide +kernel) ⟨by decide +kernel, by decide +kernel, by decide +kernel⟩ (by decide +kernel) (fun q s h => by
  match q, h with
  | 0, h => cases h; exact hg
  | q + 1, h => cases h)
def k_sg8 : List Nat := [0, 1, 2, 3, 4, 5, 6, 7, 8, 9, 10, 11, 12, 13, 14, 15, 16, 17, 18, 19, 20, 61, 62, 63, 64, 65, 26, 27, 28, 29, 30, 31, 32, 33, 34, 35, 36, 37, 38, 39, 40, 41, 42, 43, 44, 45, 46, 47, 48, 49, 50, 51, 52, 53, 54, 55, 56, 57, 58, 59, 60, 21, 22, 23, 24, 25, 66, 67, 68, 69, 70, 71, 72, 73, 74, 75, 76, 77, 78, 79, 80, 81, 82, 83, 84, 85, 86, 87, 88, 89, 90, 91, 92, 93, 94, 95, 96, 97, 98, 99, 100, 101, 102, 103, 104]
set_option maxRecDepth 100000 in
theorem TrX_8 {gv : Nat → Int32} (hg : gv 0 = a_i32 8) : TrX k_sg8 gv (k_HXs [21]) := TrX_of (sp := 20) (ss := [8]) (cs := [21]) (by decide +kernel) (by decide +kernel) (by decide +kernel) (by decide +kernel) ⟨by decide +kernel, by decide +kernel, by decide +kernel⟩ (by decide +kernel) (fun q s h => by
  match q, h with
  | 0, h => cases h; exact hg
  | q + 1, h => cases h)
def k_sg9 : List Nat := [0, 1, 2, 3, 4, 5, 6, 7, 8, 9, 10, 11, 12, 13, 14, 15, 16, 17, 18, 19, 20, 66, 67, 68, 69, 70, 26, 27, 28, 29, 30, 31, 32, 33, 34, 35, 36, 37, 38, 39, 40, 41, 42, 43, 44, 45, 46, 47, 48, 49, 50, 51, 52, 53, 54, 55, 56, 57, 58, 59, 60, 61, 62, 63, 64, 65, 21, 22, 23, 24, 25, 71, 72, 73, 74, 75, 76, 77, 78, 79, 80, 81, 82, 83, 84, 85, 86, 87, 88, 89, 90, 91, 92, 93, 94, 95, 96, 97, 98, 99, 100, 101, 102, 103, 104]
set_option maxRecDepth 100000 in
theorem TrX_9 {gv : Nat → Int32} (hg : gv 0 = a_i32 9) : TrX k_sg9 gv (k_HXs [21]) := TrX_of (sp := 20) (ss := [9]) (cs := [21]) (by decide +kernel) (by decide +kernel) (by decide +kernel) (by decide +kernel) ⟨by decide +kernel, by decide +kernel, by decide +kernel⟩ (by decide +kernel) (fun q s h => by
  match q, h with
  | 0, h => cases h; exact hg
  | q + 1, h => cases h)
theorem TrX_sp {gv : Nat → Int32} {m : Nat} (hm : m < 10) (hg : gv 0 = a_i32 m) : ∃ σ, TrX σ gv (k_HXs [21]) := by
  match m, hm, hg with
  | 0, _, hg => exact ⟨_, TrX_0 hg⟩
  | 1, _, hg => exact ⟨_, TrX_1 hg⟩
  | 2, _, hg => exact ⟨_, TrX_2 hg⟩
  | 3, _, hg => exact ⟨_, TrX_3 hg⟩
  | 4, _, hg => exact ⟨_, TrX_4 hg⟩
  | 5, _, hg => exact ⟨_, TrX_5 hg⟩
  | 6, _, hg => exact ⟨_, TrX_6 hg⟩
  | 7, _, hg => exact ⟨_, TrX_7 hg⟩
  | 8, _, hg => exact ⟨_, TrX_8 hg⟩
  | 9, _, hg => exact ⟨_, TrX_9 hg⟩
  | m + 10, hm, _ => exact absurd hm (by omega)
abbrev OP_0 (xs : List Int32) : Prop := OpQ kM_105 [] kM_139 [] xs
abbrev OP_1 (xs : List Int32) : Prop := OpQ kM_106 [] kM_140 [] xs
abbrev OP_2 (xs : List Int32) : Prop := OpQ kM_107 [] kM_141 [] xs
abbrev OP_3 (xs : List Int32) : Prop := OpQ kM_108 [] kM_142 [none, none, none, none, none] xs
abbrev OP_4 (xs : List Int32) : Prop := OpQ kM_109 [] kM_144 [none, none] xs
abbrev OP_5 (xs : List Int32) : Prop := OpQ kM_110 [] kM_145 [none] xs
abbrev OP_6 (xs : List Int32) : Prop := OpQ kM_111 [] kM_146 [none] xs
abbrev OP_7 (xs : List Int32) : Prop := OpQ kM_112 [] kM_147 [none, none, none] xs
abbrev OP_8 (xs : List Int32) : Prop := OpQ kM_115 [] kM_167 [none, none, none, none] xs
abbrev OP_9 (xs : List Int32) : Prop := OpQ kM_116 [] kM_170 [] xs
abbrev OP_10 (xs : List Int32) : Prop := OpQ kM_117 [] kM_173 [none, none, none, none] xs
abbrev OP_11 (xs : List Int32) : Prop := OpQ kM_121 [] kM_175 [none, none, none, none] xs
abbrev OP_12 (xs : List Int32) : Prop := OpQ kM_122 [] kM_176 [none, none] xs
abbrev OP_13 (xs : List Int32) : Prop := OpQ kM_123 [] kM_177 [none, none, none, none] xs
abbrev OP_14 (xs : List Int32) : Prop := OpQ kM_124 [none] kM_178 [none] xs
abbrev OP_15 (xs : List Int32) : Prop := OpQ kM_125 [none] kM_187 [none] xs
abbrev OP_16 (xs : List Int32) : Prop := OpQ kM_126 [] kM_188 [none, none] xs
abbrev OP_17 (xs : List Int32) : Prop := OpQ kM_127 [] kM_189 [none] xs
abbrev OP_18 (xs : List Int32) : Prop := OpQ kM_129 [] kM_190 [none] xs
abbrev OP_19 (xs : List Int32) : Prop := OpQ kM_130 [] kM_191 [none, none] xs
abbrev OP_20 (xs : List Int32) : Prop := OpQ kM_131 [] kM_192 [none] xs
abbrev OP_21 (xs : List Int32) : Prop := OpQ kM_133 [none] kM_196 [none] xs
abbrev OP_22 (xs : List Int32) : Prop := OpQ kM_134 [none, none] kM_197 [none, none, none, none] xs
