/-! ===== the relation between the evaluator's things and the machine's ===== -/
/-- a method: its class, code, locals, answer's type, name, how many frames it may need -/
abbrev AM : Type := String × ByteArray × Nat × Option FieldType × String × Nat
def a_bs (x : Int32) : Nat := (x.toInt + 2147483648).toNat
/-- what a tag says of an int: below 2^20 a ghost's number + 1; from 2^20 on, known bits (mask, bits), from 2^21 on of which one it is too -/
def gR (gv : Nat → Int32) (g : Nat) (x : Int32) : Prop := (g < 1048576 → ∀ q, g = q + 1 → x = gv q) ∧ (2097152 ≤ g → x = gv (1048576 + g / 1048576)) ∧ (1048576 ≤ g → Nat.land x.toNatClampNeg (Nat.mod (Nat.div g 1024) 1024) = Nat.mod g 1024)
theorem gR_0 {gv : Nat → Int32} {x : Int32} : gR gv 0 x := ⟨fun _ _ z => (by cases z), fun z => absurd z (by decide), fun z => absurd z (by decide)⟩
def vR (gv : Nat → Int32) (ad : List Nat) (a : AV) (v : Value) : Prop := match a with
  | .inl n => n < 4294967296 ∧ v = .int (a_i32 n)
  | .inr (.inl 0) => v = .null
  | .inr (.inl (r + 1)) => ∃ x : Nat, ad[r]? = some x ∧ v = .ref x
  | .inr (.inr (.inl n)) => n < 18446744073709551616 ∧ v = .long (a_i64 n)
  | .inr (.inr (.inr (g, lo, hi))) => ∃ x : Int32, v = .int x ∧ lo ≤ a_bs x ∧ a_bs x ≤ hi ∧ gR gv g x
def rR (ad : List Nat) (n : Nat) (f : Option Nat) : Prop := match n with
  | 0 => f = none
  | r + 1 => ∃ x : Nat, ad[r]? = some x ∧ f = some x
/-- the classes' fields: true where a reference -/
def k_ft : List (List Bool) := [[false, false, true, true], [true, true, false, false], [true, true, true, true], [false, true, true, true], [true], [false, true], [true, true, true, true], [false, true, true, true, true, true, true, true], [true, true, true, true, true, true, true, true], [true, true, true, true, true, true, true, true, true, false, true, true, true, true, true, true, false, true, true, true, false, false, true, true, true, true, true, true, true, true, true, true, true, true, true, true, true, true]]
def a_ft (ci k : Nat) : Option Bool := (k_ft[ci]?).bind (fun l => l[k]?)
def a_fv (b : Bool) (n : Nat) : AV := if b then aR n else aI n
def cR (gv : Nat → Int32) (cA : Nat → ClassId) (ad : List Nat) (x : AC) (e : va_E) : Prop := match x with
  | .inl (kind, n, N) => n < 2147483648 ∧
      ((kind = 0 ∧ ∃ f : Nat → Int32, e = .inl (cA 0, n, .inl f) ∧ ∀ i, i < n → f i = a_i32 (a_dig N 32 i)) ∨
       (kind = 1 ∧ ∃ f : Nat → Int32, e = .inl (cA 1, n, .inl f) ∧ ∀ i, i < n → f i = a_i32 (a_dig N 1 i)) ∨
       (kind = 2 ∧ ∃ f : Nat → Int64, e = .inl (cA 2, n, .inr (.inl f)) ∧ ∀ i, i < n → f i = a_i64 (a_dig N 64 i)) ∨
       ((kind = 3 ∨ kind = 4) ∧ ∃ f : Nat → Option Nat, e = .inl (cA kind, n, .inr (.inr (.inr (.inr f)))) ∧ ∀ i, i < n → rR ad (a_dig N 32 i) (f i)))
  | .inr (.inl (ci, N)) => ∃ fs : List Value, e = .inr (ci, fs) ∧ fs.length = (k_ft.getD ci []).length ∧ ∀ k b, a_ft ci k = some b → ∃ v, fs[k]? = some v ∧ vR gv ad (a_fv b (a_dig N 64 k)) v
  | .inr (.inr (kind, n, o)) => n < 2147483648 ∧
      ((kind = 0 ∧ o = none ∧ ∃ f : Nat → Int32, e = .inl (cA 0, n, .inl f)) ∨
       ((kind = 3 ∨ kind = 4) ∧ ∃ (cs : List Nat) (f : Nat → Option Nat), o = some cs ∧ e = .inl (cA kind, n, .inr (.inr (.inr (.inr f)))) ∧ ∀ q c, cs[q]? = some c → ∃ x, ad[c]? = some x ∧ f (gv q).toNatClampNeg = some x))
def hlook (h : AH) (c : Nat) : Option AC := (h[c / 8]?).bind (fun l => l[c % 8]?)
def adr (ws : va_W) : List Nat := ws.map Prod.fst
def a_csz (x : AC) : Nat := match x with
  | .inl (_, n, _) => n
  | .inr (.inl (ci, _)) => (k_ft.getD ci []).length
  | .inr (.inr (_, n, _)) => n
def a_cnt (h : AH) : Nat := (h.map List.length).sum
def a_slt (h : AH) : Nat := (h.map (fun l => (l.map a_csz).sum)).sum
def a_rh (r : ARes) : AH := match r with
  | .inl (_, h) => h
  | .inr (_, _, _, h) => h
def LR (gv : Nat → Int32) (ad : List Nat) (ls : Array Slot) (nL : Nat) (L : ALs) : Prop := ∃ lv : List (Nat × Value), lv_has ls nL lv ∧ L.length ≤ nL ∧ ∀ i av, L[i]? = some (some av) → ∃ v, (i, v) ∈ lv ∧ vR gv ad av v
def SR (gv : Nat → Int32) (ad : List Nat) : ASt → List Value → Prop
  | [], [] => True
  | a :: S, v :: st => vR gv ad a v ∧ SR gv ad S st
  | _, _ => False
def k_tys (cA : Nat → ClassId) : List (ClassId × FieldType) := [(cA 0, .int), (cA 1, .boolean), (cA 2, .long), (cA 3, .object RX0), (cA 4, .object RX1)]
abbrev classes : List vw_C := [(RX0, TX0, 4), (RX1, TX1, 4), (RX2, TX2, 4), (RX3, TX3, 4), (RX4, TX4, 1), (RX5, TX5, 2), (RX6, TX6, 4), (RX7, TX7, 8), (RX8, TX8, 8), (RX9, TX9, 38)]
def WD (gv : Nat → Int32) (cA : Nat → ClassId) (D : va_G) (A : Nat → Prop) (s : State) (h : AH) (ws : va_W) (H : Heap) (locs : List Loc) : Prop :=
  va_K D classes (k_tys cA) s ∧ va_P D classes ws H ∧ va_D A ws ∧ va_S A s.heap H locs ∧ (∀ q : Nat, s.heap.size ≤ q → A q) ∧ ws.length = a_cnt h ∧ ∀ c x, hlook h c = some x → ∃ a e, ws[c]? = some (a, e) ∧ cR gv cA (adr ws) x e
def CX (M : AM) (p : Program) (R : Room) (s : State) (m : MethodId) (args : Array Value) (meth : Method) (c : Code) : Prop :=
  p.tables.exec = Jvm.exec ∧ c.code = M.2.1 ∧ c.maxLocals = M.2.2.1 ∧ s.vm.findClass M.1 = some m.cls ∧ (∀ w ∈ k_tbl, w.before args s = true) ∧ meth.sig.returnType = M.2.2.2.1 ∧ meth.locks = false ∧ meth.name = M.2.2.2.2.1 ∧ M.2.2.2.2.2 ≤ R.frames ∧ 64 * M.2.2.2.2.2 ≤ R.locals
def a_ext (ws ws' : va_W) : Prop := ∀ (i a : Nat) (e : va_E), ws[i]? = some (a, e) → ∃ e', ws'[i]? = some (a, e')
/-- the answer on the stack -/
def rS (gv : Nat → Int32) (ad : List Nat) (v : Option AV) (st : List Value) : Prop := match v with
  | none => st = []
  | some a => ∃ x, st = [x] ∧ vR gv ad a x
/-- the instruction that gives it back -/
def rI (cc : ByteArray) (pc : Nat) (v : Option AV) : Prop := match v with
  | none => decode cc pc = .ok (.return_, 1)
  | some (.inl _) => decode cc pc = .ok (.ireturn, 1)
  | some (.inr (.inl _)) => decode cc pc = .ok (.areturn, 1)
  | some (.inr (.inr (.inl _))) => decode cc pc = .ok (.lreturn, 1)
  | some (.inr (.inr (.inr _))) => decode cc pc = .ok (.ireturn, 1)
section
variable (M : AM) (p : Program) (l : Launch) (e : Env) (R : Room) (s : State) (m : MethodId) (args : Array Value) (below : List Frame) (meth : Method) (c : Code)
/-- what is to be shown at the end of a run -/
def FinA (gv : Nat → Int32) (cA : Nat → ClassId) (D : va_G) (A : Nat → Prop) (ws : va_W) (n0 z0 : Nat) (r : ARes) (Q : State → Prop) : Prop := match r with
  | .inl (v, h') => ∀ (ws' : va_W) (H' : Heap) (locs' : List Loc) (cells' slots' : Nat) (ls' : Array Slot) (st' : List Value) (pc' : Nat), WD gv cA D A s h' ws' H' locs' → a_ext ws ws' → cells' + n0 = a_cnt h' → slots' + z0 = a_slt h' → rS gv (adr ws') v st' → rI M.2.1 pc' v → W p l e R s m args below meth c H' locs' cells' slots' Q (F0 m pc' ls' st')
  | .inr (n, L', S', h') => ∀ (ws' : va_W) (H' : Heap) (locs' : List Loc) (cells' slots' : Nat) (ls' : Array Slot) (st' : List Value), WD gv cA D A s h' ws' H' locs' → a_ext ws ws' → cells' + n0 = a_cnt h' → slots' + z0 = a_slt h' → LR gv (adr ws') ls' M.2.2.1 L' → SR gv (adr ws') S' st' → W p l e R s m args below meth c H' locs' cells' slots' Q (F0 m n ls' st')
end
def Claim (M : AM) (pc : Nat) (L : ALs) (S : ASt) (h : AH) (r : ARes) : Prop :=
  ∀ (p : Program) (l : Launch) (e : Env) (R : Room) (s : State) (m : MethodId) (args : Array Value) (below : List Frame) (meth : Method) (c : Code) (gv : Nat → Int32) (cA : Nat → ClassId) (D : va_G) (A : Nat → Prop) (ws : va_W) (H : Heap) (locs : List Loc) (cells slots n0 z0 : Nat) (ls : Array Slot) (st : List Value) (Q : State → Prop),
    CX M p R s m args meth c → WD gv cA D A s h ws H locs → cells + n0 = a_cnt h → slots + z0 = a_slt h → a_cnt (a_rh r) ≤ R.cells + n0 → a_slt (a_rh r) ≤ R.slots + z0 → LR gv (adr ws) ls M.2.2.1 L → SR gv (adr ws) S st → FinA M p l e R s m args below meth c gv cA D A ws n0 z0 r Q →
    W p l e R s m args below meth c H locs cells slots Q (F0 m pc ls st)
/-- the same for ghosts that are told -/
def ClaimG (gv : Nat → Int32) (M : AM) (pc : Nat) (L : ALs) (S : ASt) (h : AH) (r : ARes) : Prop :=
  ∀ (p : Program) (l : Launch) (e : Env) (R : Room) (s : State) (m : MethodId) (args : Array Value) (below : List Frame) (meth : Method) (c : Code) (cA : Nat → ClassId) (D : va_G) (A : Nat → Prop) (ws : va_W) (H : Heap) (locs : List Loc) (cells slots n0 z0 : Nat) (ls : Array Slot) (st : List Value) (Q : State → Prop),
    CX M p R s m args meth c → WD gv cA D A s h ws H locs → cells + n0 = a_cnt h → slots + z0 = a_slt h → a_cnt (a_rh r) ≤ R.cells + n0 → a_slt (a_rh r) ≤ R.slots + z0 → LR gv (adr ws) ls M.2.2.1 L → SR gv (adr ws) S st → FinA M p l e R s m args below meth c gv cA D A ws n0 z0 r Q →
    W p l e R s m args below meth c H locs cells slots Q (F0 m pc ls st)
theorem Claim_G {M : AM} {pc : Nat} {L : ALs} {S : ASt} {h : AH} {r : ARes} (hc : Claim M pc L S h r) (gv : Nat → Int32) : ClaimG gv M pc L S h r := fun p l e R s m args below meth c => hc p l e R s m args below meth c gv
theorem Claim_ofG {M : AM} {pc : Nat} {L : ALs} {S : ASt} {h : AH} {r : ARes} (hc : ∀ gv, ClaimG gv M pc L S h r) : Claim M pc L S h r := fun p l e R s m args below meth c gv => hc gv p l e R s m args below meth c
def a_le (h h' : AH) : Prop := a_cnt h ≤ a_cnt h' ∧ a_slt h ≤ a_slt h'
/-- the answer is of the method's kind -/
def rK (ret : Option FieldType) (v : Option AV) : Prop := match v with
  | none => ret = none
  | some (.inl n) => ret = some .int ∨ (ret = some .boolean ∧ n ≤ 1)
  | some (.inr (.inl n)) => n ≠ 0 ∧ ∃ C, ret = some (.object C)
  | some (.inr (.inr (.inl _))) => ret = some .long
  | some (.inr (.inr (.inr _))) => ret = some .int
def rOK (ret : Option FieldType) (r : ARes) : Prop := match r with
  | .inl (v, _) => rK ret v
  | .inr _ => True
def Sound (M : AM) (pc : Nat) (k : AK) : Prop := ∀ (L : ALs) (S : ASt) (h : AH) (r : ARes), k L S h = some r → (a_le h (a_rh r) ∧ rOK M.2.2.2.1 r) ∧ Claim M pc L S h r
/-! what the evaluator's own functions are -/
theorem a_nth_eq {α β : Type} (k : α → Option β) (l : List α) (i : Nat) : a_nth k l i = (l[i]?).bind k := by
  induction l generalizing i with
  | nil => rfl
  | cons x xs ih => cases i with
    | zero => rfl
    | succ j => exact ih j
theorem a_set_eq {α : Type} (v : α) (l : List α) (i : Nat) : a_set v l i = l.set i v := by
  induction l generalizing i with
  | nil => rfl
  | cons x xs ih => cases i with
    | zero => rfl
    | succ j => exact congrArg (x :: ·) (ih j)
theorem a_upd_len {α : Type} (f : α → α) (l : List α) (i : Nat) : (a_upd f l i).length = l.length := by
  induction l generalizing i with
  | nil => rfl
  | cons x xs ih => cases i with
    | zero => rfl
    | succ j => exact congrArg (· + 1) (ih j)
theorem a_upd_get {α : Type} (f : α → α) (l : List α) (i j : Nat) : (a_upd f l i)[j]? = if i = j then (l[j]?).map f else l[j]? := by
  induction l generalizing i j with
  | nil => show ([] : List α)[j]? = _; simp
  | cons x xs ih => cases i with
    | zero => cases j with
      | zero => rfl
      | succ j => rfl
    | succ i => cases j with
      | zero => rfl
      | succ j =>
        show (a_upd f xs i)[j]? = _
        rw [ih i j]
        simp
theorem a_lset_len (v : AV) (L : ALs) (i : Nat) : (a_lset v L i).length = L.length := by
  induction L generalizing i with
  | nil => rfl
  | cons x xs ih => cases i with
    | zero => rfl
    | succ j => exact congrArg (· + 1) (ih j)
def a_isLong (a : AV) : Prop := ∃ n, a = aL n
theorem a_dropL_some {o : Option AV} {a : AV} (h : a_dropL o = some a) : o = some a ∧ ¬ a_isLong a := by
  match o, h with
  | some (.inl n), h => cases h; exact ⟨rfl, fun ⟨_, h⟩ => by cases h⟩
  | some (.inr (.inl n)), h => cases h; exact ⟨rfl, fun ⟨_, h⟩ => by cases h⟩
  | some (.inr (.inr (.inr u))), h => cases h; exact ⟨rfl, fun ⟨_, h⟩ => by cases h⟩
theorem a_lset_get {v : AV} {L : ALs} {i j : Nat} {a : AV} (h : (a_lset v L i)[j]? = some (some a)) : (j = i ∧ a = v) ∨ (j ≠ i ∧ L[j]? = some (some a) ∧ ¬ (j + 1 = i ∧ a_isLong a)) := by
  induction L generalizing i j with
  | nil =>
    have h : ([] : ALs)[j]? = some (some a) := h
    simp at h
  | cons x xs ih => cases i with
    | zero => cases j with
      | zero => exact Or.inl ⟨rfl, (Option.some.inj (Option.some.inj h)).symm⟩
      | succ j => exact Or.inr ⟨by omega, h, by omega⟩
    | succ i => cases j with
      | zero => cases i with
        | zero =>
          obtain ⟨h1, h2⟩ := a_dropL_some (Option.some.inj h)
          exact Or.inr ⟨by omega, congrArg some h1, fun q => h2 q.2⟩
        | succ i => exact Or.inr ⟨by omega, h, by omega⟩
      | succ j =>
        rcases ih (i := i) (j := j) h with ⟨h1, h2⟩ | ⟨h1, h2, h3⟩
        · exact Or.inl ⟨by omega, h2⟩
        · exact Or.inr ⟨by omega, h2, fun q => h3 ⟨by omega, q.2⟩⟩
theorem a_lget_some {L : ALs} {i : Nat} {k : AV → AO} {r : ARes} (h : a_lget L i k = some r) : ∃ v, L[i]? = some (some v) ∧ k v = some r := by
  unfold a_lget at h
  rw [a_nth_eq] at h
  obtain ⟨o, ho, h⟩ := Option.bind_eq_some_iff.mp h
  match o, ho, h with
  | some v, ho, h => exact ⟨v, ho, h⟩
theorem a_popV_some {S : ASt} {k : AV → ASt → AO} {r : ARes} (h : a_popV S k = some r) : ∃ v S', S = v :: S' ∧ k v S' = some r := by
  match S, h with
  | v :: S', h => exact ⟨v, S', rfl, h⟩
theorem a_popI_some {S : ASt} {k : Nat → ASt → AO} {r : ARes} (h : a_popI S k = some r) : ∃ n S', S = aI n :: S' ∧ k n S' = some r := by
  match S, h with
  | .inl n :: S', h => exact ⟨n, S', rfl, h⟩
theorem a_isR_some {v : AV} {k : Nat → AO} {r : ARes} (h : a_isR v k = some r) : ∃ n, v = aR n ∧ k n = some r := by
  match v, h with
  | .inr (.inl n), h => exact ⟨n, rfl, h⟩
theorem a_isC_some {v : AV} {k : Nat → AO} {r : ARes} (h : a_isC v k = some r) : ∃ n, v = aR (n + 1) ∧ k n = some r := by
  obtain ⟨n, rfl, h⟩ := a_isR_some h
  cases n with
  | zero => cases h
  | succ n => exact ⟨n, rfl, h⟩
theorem a_isL_some {v : AV} {k : Nat → AO} {r : ARes} (h : a_isL v k = some r) : ∃ n, v = aL n ∧ k n = some r := by
  match v, h with
  | .inr (.inr (.inl n)), h => exact ⟨n, rfl, h⟩
theorem a_isI_some {v : AV} {k : Nat → AO} {u : Nat → Nat → Nat → AO} {r : ARes} (h : a_isI v k u = some r) : (∃ n, v = aI n ∧ k n = some r) ∨ ∃ g lo hi, v = aU g lo hi ∧ u g lo hi = some r := by
  match v, h with
  | .inl n, h => exact Or.inl ⟨n, rfl, h⟩
  | .inr (.inr (.inr (g, lo, hi))), h => exact Or.inr ⟨g, lo, hi, rfl, h⟩
theorem a_popR_some {S : ASt} {k : Nat → ASt → AO} {r : ARes} (h : a_popR S k = some r) : ∃ n S', S = aR n :: S' ∧ k n S' = some r := by
  obtain ⟨v, S', rfl, h⟩ := a_popV_some h
  obtain ⟨n, rfl, h⟩ := a_isR_some h
  exact ⟨n, S', rfl, h⟩
theorem a_popL_some {S : ASt} {k : Nat → ASt → AO} {r : ARes} (h : a_popL S k = some r) : ∃ n S', S = aL n :: S' ∧ k n S' = some r := by
  obtain ⟨v, S', rfl, h⟩ := a_popV_some h
  obtain ⟨n, rfl, h⟩ := a_isL_some h
  exact ⟨n, S', rfl, h⟩
theorem a_popC_some {S : ASt} {k : Nat → ASt → AO} {r : ARes} (h : a_popC S k = some r) : ∃ n S', S = aR (n + 1) :: S' ∧ k n S' = some r := by
  obtain ⟨n, S', rfl, h⟩ := a_popR_some h
  cases n with
  | zero => cases h
  | succ n => exact ⟨n, S', rfl, h⟩
theorem a_at_eq {α : Type} (l : List α) (i : Nat) : a_at l i = l[i]? := by
  induction l generalizing i with
  | nil => rfl
  | cons x xs ih => cases i with
    | zero => rfl
    | succ j => exact ih j
theorem a_hv_eq (h : AH) (c : Nat) : a_hv h c = hlook h c := by
  unfold a_hv hlook
  rw [a_at_eq]
  show @Option.rec (List AC) (fun _ => Option AC) none (fun l => a_at l (c % 8)) h[c / 8]? = _
  cases h[c / 8]? with
  | none => rfl
  | some l => exact a_at_eq l (c % 8)
theorem a_hget_some {h : AH} {c : Nat} {k : AC → AO} {r : ARes} (e : a_hget h c k = some r) : ∃ x, hlook h c = some x ∧ k x = some r := by
  unfold a_hget at e
  rw [a_hv_eq] at e
  cases hx : hlook h c with
  | none => rw [hx] at e; cases e
  | some x => rw [hx] at e; exact ⟨x, rfl, e⟩
theorem a_ar_some {h : AH} {c kind n N : Nat} (e : a_ar h c kind = some (n, N)) : hlook h c = some (.inl (kind, n, N)) := by
  unfold a_ar at e
  rw [a_hv_eq] at e
  match hx : hlook h c, e with
  | some (.inl (kd, q)), e =>
    by_cases hk : kd = kind
    · subst hk
      have e : @Bool.rec (fun _ => Option (Nat × Nat)) none (some q) (Nat.beq kd kd) = some (n, N) := e
      rw [beq_iff.mpr rfl] at e
      cases e
      rfl
    · have e : @Bool.rec (fun _ => Option (Nat × Nat)) none (some q) (Nat.beq kd kind) = some (n, N) := e
      rw [beq_no hk] at e
      cases e
theorem a_ob_some {h : AH} {c ci N : Nat} (e : a_ob h c ci = some N) : hlook h c = some (.inr (.inl (ci, N))) := by
  unfold a_ob at e
  rw [a_hv_eq] at e
  match hx : hlook h c, e with
  | some (.inr (.inl (cj, q))), e =>
    by_cases hk : cj = ci
    · subst hk
      have e : @Bool.rec (fun _ => Option Nat) none (some q) (Nat.beq cj cj) = some N := e
      rw [beq_iff.mpr rfl] at e
      cases e
      rfl
    · have e : @Bool.rec (fun _ => Option Nat) none (some q) (Nat.beq cj ci) = some N := e
      rw [beq_no hk] at e
      cases e
theorem a_arr_some {h : AH} {c kind : Nat} {k : Nat → Nat → AO} {r : ARes} (e : a_arr h c kind k = some r) : ∃ n N, hlook h c = some (.inl (kind, n, N)) ∧ k n N = some r := by
  unfold a_arr at e
  match hx : a_ar h c kind, e with
  | some (n, N), e => exact ⟨n, N, a_ar_some hx, e⟩
theorem a_obj_some {h : AH} {c ci : Nat} {k : Nat → AO} {r : ARes} (e : a_obj h c ci k = some r) : ∃ N, hlook h c = some (.inr (.inl (ci, N))) ∧ k N = some r := by
  unfold a_obj at e
  match hx : a_ob h c ci, e with
  | some N, e => exact ⟨N, a_ob_some hx, e⟩
theorem cond_some {b : Bool} {x : AO} {r : ARes} (h : a_if b x none = some r) : b = true ∧ x = some r := by
  cases b
  · cases h
  · exact ⟨rfl, h⟩
/-! the heap -/
theorem hlook_set {h : AH} {c : Nat} {v x : AC} (hx : hlook h c = some x) (c' : Nat) : hlook (a_hset h c v) c' = if c = c' then some v else hlook h c' := by
  have e : ∀ d, (a_hset h c v)[d]? = if c / 8 = d then (h[d]?).map (fun l => a_set v l (c % 8)) else h[d]? := fun d => a_upd_get _ _ _ _
  unfold hlook at hx ⊢
  rw [e]
  obtain ⟨l, hl, hx⟩ := Option.bind_eq_some_iff.mp hx
  by_cases hd : c / 8 = c' / 8
  · rw [if_pos hd, ← hd, hl]
    show (a_set v l (c % 8))[c' % 8]? = if c = c' then some v else l[c' % 8]?
    rw [a_set_eq]
    have hlt : c % 8 < l.length := (List.getElem?_eq_some_iff.mp hx).1
    by_cases hm : c % 8 = c' % 8
    · have : c = c' := by omega
      subst this
      rw [if_pos rfl, List.getElem?_set_self hlt]
    · rw [List.getElem?_set_ne hm, if_neg (by omega)]
  · rw [if_neg hd, if_neg (fun q => hd (by rw [q]))]
theorem sum_upd {α : Type} (f : α → α) (g : α → Nat) (l : List α) (i : Nat) (hg : ∀ x, l[i]? = some x → g (f x) = g x) : ((a_upd f l i).map g).sum = (l.map g).sum := by
  induction l generalizing i with
  | nil => rfl
  | cons x xs ih => cases i with
    | zero =>
      have := hg x rfl
      show ((f x :: xs).map g).sum = _
      simp [this]
    | succ j =>
      have := ih j (fun y hy => hg y hy)
      show ((x :: a_upd f xs j).map g).sum = _
      simp [this]
theorem sum_set {l : List AC} {i : Nat} {v x : AC} (hx : l[i]? = some x) (hs : a_csz v = a_csz x) : ((l.set i v).map a_csz).sum = (l.map a_csz).sum := by
  induction l generalizing i with
  | nil => simp at hx
  | cons y ys ih => cases i with
    | zero =>
      cases hx
      simp [hs]
    | succ j =>
      have := ih (i := j) hx
      simp only [List.set_cons_succ, List.map_cons, List.sum_cons, this]
theorem cnt_set {h : AH} {c : Nat} {v x : AC} (hx : hlook h c = some x) (hs : a_csz v = a_csz x) : a_cnt (a_hset h c v) = a_cnt h ∧ a_slt (a_hset h c v) = a_slt h := by
  unfold hlook at hx
  obtain ⟨l, hl, hx⟩ := Option.bind_eq_some_iff.mp hx
  refine ⟨sum_upd _ _ _ _ (fun y hy => ?_), sum_upd _ _ _ _ (fun y hy => ?_)⟩
  · rw [a_set_eq, List.length_set]
  · have hy : h[c / 8]? = some y := hy
    rw [hl] at hy
    cases hy
    rw [a_set_eq]
    exact sum_set hx hs
/-! the world -/
theorem adr_set {ws : va_W} {q a : Nat} {e e' : va_E} (h : ws[q]? = some (a, e)) : adr (ws.set q (a, e')) = adr ws := by
  unfold adr
  apply List.ext_getElem?
  intro i
  rw [List.getElem?_map, List.getElem?_map, List.getElem?_set]
  have hlt : q < ws.length := (List.getElem?_eq_some_iff.mp h).1
  by_cases hi : q = i
  · subst hi
    rw [if_pos rfl, if_pos hlt, h]
    rfl
  · rw [if_neg hi]
theorem ext_set {ws : va_W} {q a : Nat} {e e' : va_E} (h : ws[q]? = some (a, e)) : a_ext ws (ws.set q (a, e')) := by
  intro i b f hb
  have hlt : q < ws.length := (List.getElem?_eq_some_iff.mp h).1
  by_cases hi : q = i
  · subst hi
    rw [h] at hb
    cases hb
    exact ⟨e', by rw [List.getElem?_set_self hlt]⟩
  · exact ⟨f, by rw [List.getElem?_set_ne hi]; exact hb⟩
theorem a_ext.rf (ws : va_W) : a_ext ws ws := fun _ _ e h => ⟨e, h⟩
theorem a_ext.trans {a b c : va_W} (h1 : a_ext a b) (h2 : a_ext b c) : a_ext a c := fun i x e h => by
  obtain ⟨e1, h3⟩ := h1 i x e h
  exact h2 i x e1 h3
theorem adr_get {ws : va_W} {i a : Nat} {e : va_E} (h : ws[i]? = some (a, e)) : (adr ws)[i]? = some a := by
  unfold adr
  rw [List.getElem?_map, h]
  rfl
theorem ext_adr {a b : va_W} (h : a_ext a b) {i x : Nat} (hx : (adr a)[i]? = some x) : (adr b)[i]? = some x := by
  unfold adr at hx
  rw [List.getElem?_map] at hx
  obtain ⟨⟨y, e⟩, ha, hy⟩ := Option.map_eq_some_iff.mp hx
  obtain ⟨e', hb⟩ := h i y e ha
  have hy : y = x := hy
  subst hy
  exact adr_get hb
theorem vR_ext {gv : Nat → Int32} {a b : va_W} (h : a_ext a b) {x : AV} {v : Value} (hv : vR gv (adr a) x v) : vR gv (adr b) x v := by
  match x, hv with
  | .inl n, hv => exact hv
  | .inr (.inl 0), hv => exact hv
  | .inr (.inl (r + 1)), ⟨y, h1, h2⟩ => exact ⟨y, ext_adr h h1, h2⟩
  | .inr (.inr (.inl n)), hv => exact hv
  | .inr (.inr (.inr (g, lo, hi))), hv => exact hv
theorem LR_ext {gv : Nat → Int32} {a b : va_W} (h : a_ext a b) {ls : Array Slot} {nL : Nat} {L : ALs} (hl : LR gv (adr a) ls nL L) : LR gv (adr b) ls nL L := by
  obtain ⟨lv, h1, h2, h3⟩ := hl
  refine ⟨lv, h1, h2, fun i av hi => ?_⟩
  obtain ⟨v, h4, h5⟩ := h3 i av hi
  exact ⟨v, h4, vR_ext h h5⟩
theorem SR_ext {gv : Nat → Int32} {a b : va_W} (h : a_ext a b) : ∀ {S : ASt} {st : List Value}, SR gv (adr a) S st → SR gv (adr b) S st
  | [], [], _ => trivial
  | x :: S, v :: st, ⟨h1, h2⟩ => ⟨vR_ext h h1, SR_ext h h2⟩
theorem rS_ext {gv : Nat → Int32} {a b : va_W} (h : a_ext a b) {v : Option AV} {st : List Value} (hv : rS gv (adr a) v st) : rS gv (adr b) v st := by
  cases v with
  | none => exact hv
  | some x => obtain ⟨y, h1, h2⟩ := hv; exact ⟨y, h1, vR_ext h h2⟩
theorem SR_cons {gv : Nat → Int32} {ad : List Nat} {a : AV} {S : ASt} {st : List Value} (h : SR gv ad (a :: S) st) : ∃ v st', st = v :: st' ∧ vR gv ad a v ∧ SR gv ad S st' := by
  match st, h with
  | v :: st', ⟨h1, h2⟩ => exact ⟨v, st', rfl, h1, h2⟩
theorem SR_nil {gv : Nat → Int32} {ad : List Nat} {st : List Value} (h : SR gv ad [] st) : st = [] := by
  match st, h with
  | [], _ => rfl
theorem Fin_ext {M : AM} {p : Program} {l : Launch} {e : Env} {R : Room} {s : State} {m : MethodId} {args : Array Value} {below : List Frame} {meth : Method} {c : Code} {gv : Nat → Int32} {cA : Nat → ClassId} {D : va_G} {A : Nat → Prop} {ws ws1 : va_W} {n0 z0 : Nat} {r : ARes} {Q : State → Prop} (h : a_ext ws ws1) (hF : FinA M p l e R s m args below meth c gv cA D A ws n0 z0 r Q) : FinA M p l e R s m args below meth c gv cA D A ws1 n0 z0 r Q := by
  match r, hF with
  | .inl (v, h'), hF => exact fun ws' H' locs' cells' slots' ls' st' pc' g1 g2 g3 g4 g5 g6 => hF ws' H' locs' cells' slots' ls' st' pc' g1 (h.trans g2) g3 g4 g5 g6
  | .inr (n, L', S', h'), hF => exact fun ws' H' locs' cells' slots' ls' st' g1 g2 g3 g4 g5 g6 => hF ws' H' locs' cells' slots' ls' st' g1 (h.trans g2) g3 g4 g5 g6
