/-! ===== AE: a small evaluator of bytecode over abstract values; its kernel speed matters, so it is written with recursors ===== -/
/-- a value: an int (two's complement), a reference (0 null, r + 1 the cell r), a long (two's complement), an int of which bounds are known (a ghost's number + 1 or 0, the bounds with 2^31 added) -/
abbrev AV : Type := Nat ⊕ (Nat ⊕ (Nat ⊕ (Nat × Nat × Nat)))
abbrev aI (n : Nat) : AV := Sum.inl n
abbrev aR (n : Nat) : AV := Sum.inr (Sum.inl n)
abbrev aL (n : Nat) : AV := Sum.inr (Sum.inr (Sum.inl n))
abbrev aU (g lo hi : Nat) : AV := Sum.inr (Sum.inr (Sum.inr (g, lo, hi)))
/-- a cell: an array (kind, length, its contents packed), an object (its class, its fields), an array of which less is known (kind, length, the cells that the ghosts' places hold) -/
abbrev AC : Type := (Nat × Nat × Nat) ⊕ ((Nat × Nat) ⊕ (Nat × Nat × Option (List Nat)))
abbrev AH : Type := List (List AC)
abbrev ALs : Type := List (Option AV)
abbrev ASt : Type := List AV
/-- what a run ends with: an answer and the heap, or a stop: where, the locals, the stack, the heap -/
abbrev ARes : Type := (Option AV × AH) ⊕ (Nat × ALs × ASt × AH)
abbrev AO : Type := Option ARes
/-- what comes next: locals, stack, heap -/
abbrev AK : Type := ALs → ASt → AH → AO
/-- the rest of the machine: a block's number, how deep calls may still go -/
abbrev AJ : Type := Nat → AK
noncomputable def a_if {α : Type} (b : Bool) (x y : α) : α := @Bool.rec (fun _ => α) y x b
theorem a_if_t {α : Type} (x y : α) : a_if true x y = x := rfl
theorem a_if_f {α : Type} (x y : α) : a_if false x y = y := rfl
noncomputable def a_nth {α β : Type} (k : α → Option β) (l : List α) : Nat → Option β := @List.rec α (fun _ => Nat → Option β) (fun _ => none) (fun x _ ih i => @Nat.rec (fun _ => Option β) (k x) (fun j _ => ih j) i) l
noncomputable def a_set {α : Type} (v : α) (l : List α) : Nat → List α := @List.rec α (fun _ => Nat → List α) (fun _ => []) (fun x xs ih i => @Nat.rec (fun _ => List α) (v :: xs) (fun j _ => x :: ih j) i) l
noncomputable def a_lget (L : ALs) (i : Nat) (k : AV → AO) : AO := a_nth (fun o : Option AV => @Option.rec AV (fun _ => AO) none k o) L i
noncomputable def a_at {α : Type} (l : List α) : Nat → Option α := @List.rec α (fun _ => Nat → Option α) (fun _ => none) (fun x _ ih i => @Nat.rec (fun _ => Option α) (some x) (fun j _ => ih j) i) l
/-- what stands at a cell, asked for by itself, so that the kernel keeps it -/
noncomputable def a_hv (h : AH) (c : Nat) : Option AC := @Option.rec (List AC) (fun _ => Option AC) none (fun l => a_at l (Nat.mod c 8)) (a_at h (Nat.div c 8))
noncomputable def a_hget (h : AH) (c : Nat) (k : AC → AO) : AO := @Option.rec AC (fun _ => AO) none k (a_hv h c)
noncomputable def a_upd {α : Type} (f : α → α) (l : List α) : Nat → List α := @List.rec α (fun _ => Nat → List α) (fun _ => []) (fun x xs ih i => @Nat.rec (fun _ => List α) (f x :: xs) (fun j _ => x :: ih j) i) l
noncomputable def a_hset (h : AH) (c : Nat) (v : AC) : AH := a_upd (fun l => a_set v l (Nat.mod c 8)) h (Nat.div c 8)
/-- storing into the locals: a long that stood just ahead is lost -/
noncomputable def a_dropL (o : Option AV) : Option AV := @Option.rec AV (fun _ => Option AV) none (fun v => @Sum.rec _ _ (fun _ => Option AV) (fun n => some (aI n)) (fun w => @Sum.rec _ _ (fun _ => Option AV) (fun r => some (aR r)) (fun z => @Sum.rec _ _ (fun _ => Option AV) (fun _ => none) (fun u => some (Sum.inr (Sum.inr (Sum.inr u)))) z) w) v) o
noncomputable def a_lset (v : AV) (L : ALs) : Nat → ALs := @List.rec (Option AV) (fun _ => Nat → ALs) (fun _ => []) (fun x xs ih i => @Nat.rec (fun _ => ALs) (some v :: xs) (fun j _ => (@Nat.rec (fun _ => Option AV) (a_dropL x) (fun _ _ => x) j) :: ih j) i) L
noncomputable def a_popI (S : ASt) (k : Nat → ASt → AO) : AO := @List.rec AV (fun _ => AO) none (fun v S' _ => @Sum.rec _ _ (fun _ => AO) (fun n => k n S') (fun _ => none) v) S
noncomputable def a_popV (S : ASt) (k : AV → ASt → AO) : AO := @List.rec AV (fun _ => AO) none (fun v S' _ => k v S') S
noncomputable def a_isR (v : AV) (k : Nat → AO) : AO := @Sum.rec _ _ (fun _ => AO) (fun _ => none) (fun w => @Sum.rec _ _ (fun _ => AO) k (fun _ => none) w) v
noncomputable def a_isL (v : AV) (k : Nat → AO) : AO := @Sum.rec _ _ (fun _ => AO) (fun _ => none) (fun w => @Sum.rec _ _ (fun _ => AO) (fun _ => none) (fun z => @Sum.rec _ _ (fun _ => AO) k (fun _ => none) z) w) v
/-- an int, known or with bounds -/
noncomputable def a_isI (v : AV) (k : Nat → AO) (u : Nat → Nat → Nat → AO) : AO := @Sum.rec _ _ (fun _ => AO) k (fun w => @Sum.rec _ _ (fun _ => AO) (fun _ => none) (fun z => @Sum.rec _ _ (fun _ => AO) (fun _ => none) (fun q => u q.1 q.2.1 q.2.2) z) w) v
noncomputable def a_isC (v : AV) (k : Nat → AO) : AO := a_isR v fun n => @Nat.rec (fun _ => AO) none (fun c _ => k c) n
noncomputable def a_popL (S : ASt) (k : Nat → ASt → AO) : AO := a_popV S fun v S => a_isL v fun n => k n S
noncomputable def a_popR (S : ASt) (k : Nat → ASt → AO) : AO := a_popV S fun v S => a_isR v fun n => k n S
/-- a reference to a cell -/
noncomputable def a_popC (S : ASt) (k : Nat → ASt → AO) : AO := a_popR S fun n S => @Nat.rec (fun _ => AO) none (fun c _ => k c S) n
noncomputable def a_ar (h : AH) (c kind : Nat) : Option (Nat × Nat) := @Option.rec AC (fun _ => Option (Nat × Nat)) none (fun x => @Sum.rec _ _ (fun _ => Option (Nat × Nat)) (fun q => @Prod.rec _ _ (fun _ => Option (Nat × Nat)) (fun a b => @Bool.rec (fun _ => Option (Nat × Nat)) none (some b) (Nat.beq a kind)) q) (fun _ => none) x) (a_hv h c)
noncomputable def a_ob (h : AH) (c ci : Nat) : Option Nat := @Option.rec AC (fun _ => Option Nat) none (fun x => @Sum.rec _ _ (fun _ => Option Nat) (fun _ => none) (fun y => @Sum.rec _ _ (fun _ => Option Nat) (fun q => @Prod.rec _ _ (fun _ => Option Nat) (fun a b => @Bool.rec (fun _ => Option Nat) none (some b) (Nat.beq a ci)) q) (fun _ => none) y) x) (a_hv h c)
noncomputable def a_arr (h : AH) (c kind : Nat) (k : Nat → Nat → AO) : AO := @Option.rec (Nat × Nat) (fun _ => AO) none (fun q => @Prod.rec _ _ (fun _ => AO) (fun n N => k n N) q) (a_ar h c kind)
noncomputable def a_obj (h : AH) (c ci : Nat) (k : Nat → AO) : AO := @Option.rec Nat (fun _ => AO) none k (a_ob h c ci)
/-- arithmetic of ints and longs, two's complement -/
noncomputable def a_shr (a b : Nat) : Nat := a_if (Nat.ble a 2147483647) (Nat.shiftRight a (Nat.mod b 32)) (Nat.sub 4294967295 (Nat.shiftRight (Nat.sub 4294967295 a) (Nat.mod b 32)))
noncomputable def a_lshr (a b : Nat) : Nat := a_if (Nat.ble a 9223372036854775807) (Nat.shiftRight a (Nat.mod b 64)) (Nat.sub 18446744073709551615 (Nat.shiftRight (Nat.sub 18446744073709551615 a) (Nat.mod b 64)))
def a_neg (a : Nat) : Nat := Nat.mod (Nat.sub 4294967296 a) 4294967296
noncomputable def a_abs (a : Nat) : Nat := a_if (Nat.ble a 2147483647) a (Nat.sub 4294967296 a)
noncomputable def a_div (a b : Nat) : Nat := a_if (Nat.beq (Nat.div a 2147483648) (Nat.div b 2147483648)) (Nat.mod (Nat.div (a_abs a) (a_abs b)) 4294967296) (a_neg (Nat.div (a_abs a) (a_abs b)))
noncomputable def a_rem (a b : Nat) : Nat := a_if (Nat.ble a 2147483647) (Nat.mod a (a_abs b)) (a_neg (Nat.mod (a_abs a) (a_abs b)))
def a_bias (a : Nat) : Nat := Nat.mod (Nat.add 2147483648 a) 4294967296
def a_lbias (a : Nat) : Nat := Nat.mod (Nat.add 9223372036854775808 a) 18446744073709551616
def a_lt (a b : Nat) : Bool := Nat.ble (Nat.succ (a_bias a)) (a_bias b)
def a_eqb (a b : Nat) : Bool := Nat.beq a b
def a_neb (a b : Nat) : Bool := Bool.not (Nat.beq a b)
def a_geb (a b : Nat) : Bool := Nat.ble (a_bias b) (a_bias a)
def a_gtb (a b : Nat) : Bool := a_lt b a
def a_leb (a b : Nat) : Bool := Nat.ble (a_bias a) (a_bias b)
def a_cmp (c : ClassFile.Cond) : Nat → Nat → Bool := match c with
  | .eq => a_eqb
  | .ne => a_neb
  | .lt => a_lt
  | .ge => a_geb
  | .gt => a_gtb
  | .le => a_leb
/-- of an int with bounds against a known one, both with 2^31 added -/
noncomputable def a_cmpU (c : ClassFile.Cond) (lo hi b : Nat) : Option Bool := match c with
  | .eq => a_if (Nat.ble (Nat.succ hi) b || Nat.ble (Nat.succ b) lo) (some false) none
  | .ne => a_if (Nat.ble (Nat.succ hi) b || Nat.ble (Nat.succ b) lo) (some true) none
  | .lt => a_if (Nat.ble (Nat.succ hi) b) (some true) (a_if (Nat.ble b lo) (some false) none)
  | .ge => a_if (Nat.ble (Nat.succ hi) b) (some false) (a_if (Nat.ble b lo) (some true) none)
  | .gt => a_if (Nat.ble (Nat.succ b) lo) (some true) (a_if (Nat.ble hi b) (some false) none)
  | .le => a_if (Nat.ble (Nat.succ b) lo) (some false) (a_if (Nat.ble hi b) (some true) none)
def a_dig (N w i : Nat) : Nat := Nat.mod (Nat.shiftRight N (Nat.mul w i)) (Nat.pow 2 w)
def a_put (N w i v : Nat) : Nat := Nat.xor N (Nat.shiftLeft (Nat.xor (a_dig N w i) v) (Nat.mul w i))
def f_add (x y : Nat) : Nat := Nat.mod (Nat.add y x) 4294967296
def f_sub (x y : Nat) : Nat := Nat.mod (Nat.add (Nat.sub 4294967296 y) x) 4294967296
def f_mul (x y : Nat) : Nat := Nat.mod (Nat.mul x y) 4294967296
def f_shl (x y : Nat) : Nat := Nat.mod (Nat.shiftLeft x (Nat.mod y 32)) 4294967296
def f_ushr (x y : Nat) : Nat := Nat.shiftRight x (Nat.mod y 32)
def f_ladd (x y : Nat) : Nat := Nat.mod (Nat.add y x) 18446744073709551616
def f_lsub (x y : Nat) : Nat := Nat.mod (Nat.add (Nat.sub 18446744073709551616 y) x) 18446744073709551616
def f_lshl (x y : Nat) : Nat := Nat.mod (Nat.shiftLeft x (Nat.mod y 64)) 18446744073709551616
def f_lushr (x y : Nat) : Nat := Nat.shiftRight x (Nat.mod y 64)
def f_lneg (x : Nat) : Nat := Nat.mod (Nat.sub 18446744073709551616 x) 18446744073709551616
def f_l2i (x : Nat) : Nat := Nat.mod x 4294967296
noncomputable def f_lcmp (x y : Nat) : Nat := a_if (Nat.beq x y) 0 (a_if (Nat.ble (a_lbias x) (a_lbias y)) 4294967295 1)
noncomputable def a_cat1 (v : AV) : Bool := @Sum.rec _ _ (fun _ => Bool) (fun _ => true) (fun w => @Sum.rec _ _ (fun _ => Bool) (fun _ => true) (fun z => @Sum.rec _ _ (fun _ => Bool) (fun _ => false) (fun _ => true) z) w) v
/-! the instructions: what comes next is k -/
noncomputable def o_bin (f : Nat → Nat → Nat) (k : AK) : AK := fun L S h => a_popI S fun y S => a_popI S fun x S => k L (aI (f x y) :: S) h
noncomputable def o_binz (f : Nat → Nat → Nat) (k : AK) : AK := fun L S h => a_popI S fun y S => a_popI S fun x S => @Nat.rec (fun _ => AO) none (fun _ _ => k L (aI (f x y) :: S) h) y
noncomputable def o_un (f : Nat → Nat) (k : AK) : AK := fun L S h => a_popI S fun x S => k L (aI (f x) :: S) h
noncomputable def o_lbin (f : Nat → Nat → Nat) (k : AK) : AK := fun L S h => a_popL S fun y S => a_popL S fun x S => k L (aL (f x y) :: S) h
noncomputable def o_lsh (f : Nat → Nat → Nat) (k : AK) : AK := fun L S h => a_popI S fun y S => a_popL S fun x S => k L (aL (f x y) :: S) h
noncomputable def o_lun (f : Nat → Nat) (k : AK) : AK := fun L S h => a_popL S fun x S => k L (aL (f x) :: S) h
noncomputable def o_l2i (k : AK) : AK := fun L S h => a_popL S fun x S => k L (aI (f_l2i x) :: S) h
noncomputable def o_lcmp (k : AK) : AK := fun L S h => a_popL S fun y S => a_popL S fun x S => k L (aI (f_lcmp x y) :: S) h
noncomputable def o_ldc (n : Nat) (k : AK) : AK := fun L S h => k L (aI n :: S) h
noncomputable def o_ldc2 (n : Nat) (k : AK) : AK := fun L S h => k L (aL n :: S) h
noncomputable def o_iload (i : Nat) (k : AK) : AK := fun L S h => a_lget L i fun v => a_isI v (fun n => k L (aI n :: S) h) (fun g lo hi => k L (aU g lo hi :: S) h)
noncomputable def o_aload (i : Nat) (k : AK) : AK := fun L S h => a_lget L i fun v => a_isC v fun n => k L (aR (Nat.succ n) :: S) h
noncomputable def o_lload (i : Nat) (k : AK) : AK := fun L S h => a_lget L i fun v => a_isL v fun n => k L (aL n :: S) h
noncomputable def o_istore (i : Nat) (k : AK) : AK := fun L S h => a_popV S fun v S => a_isI v (fun n => k (a_lset (aI n) L i) S h) (fun g lo hi => k (a_lset (aU g lo hi) L i) S h)
noncomputable def o_astore (i : Nat) (k : AK) : AK := fun L S h => a_popC S fun n S => k (a_lset (aR (Nat.succ n)) L i) S h
noncomputable def o_lstore (i : Nat) (k : AK) : AK := fun L S h => a_popL S fun n S => k (a_set none (a_lset (aL n) L i) (Nat.succ i)) S h
noncomputable def o_iinc (i c : Nat) (k : AK) : AK := fun L S h => a_lget L i fun v => @Sum.rec _ _ (fun _ => AO) (fun n => k (a_lset (aI (f_add n c)) L i) S h) (fun _ => none) v
noncomputable def o_dup (k : AK) : AK := fun L S h => a_popV S fun v S' => a_if (a_cat1 v) (k L (v :: v :: S') h) none
noncomputable def o_dup2 (k : AK) : AK := fun L S h => a_popV S fun v S => a_popV S fun w S => a_if (a_cat1 v) (a_if (a_cat1 w) (k L (v :: w :: v :: w :: S) h) none) none
noncomputable def o_pop (k : AK) : AK := fun L S h => a_popV S fun v S => a_if (a_cat1 v) (k L S h) none
noncomputable def a_br (t k : AK) (o : Option Bool) : AK := fun L S h => @Option.rec Bool (fun _ => AO) none (fun b => a_if b (t L S h) (k L S h)) o
noncomputable def o_if (c : ClassFile.Cond) (f : Nat → Nat → Bool) (t k : AK) : AK := fun L S h => a_popV S fun v S => a_isI v (fun n => a_if (f n 0) (t L S h) (k L S h)) (fun _ lo hi => a_br t k (a_cmpU c lo hi 2147483648) L S h)
def a_swapC (c : ClassFile.Cond) : ClassFile.Cond := match c with
  | .eq => .eq
  | .ne => .ne
  | .lt => .gt
  | .ge => .le
  | .gt => .lt
  | .le => .ge
noncomputable def o_icmp (c : ClassFile.Cond) (f : Nat → Nat → Bool) (t k : AK) : AK := fun L S h => a_popV S fun w S => a_popV S fun v S => a_isI v (fun n => a_isI w (fun m => a_if (f n m) (t L S h) (k L S h)) (fun _ lo hi => a_br t k (a_cmpU (a_swapC c) lo hi (a_bias n)) L S h)) (fun _ lo hi => a_isI w (fun m => a_br t k (a_cmpU c lo hi (a_bias m)) L S h) (fun _ _ _ => none))
noncomputable def o_ifnull (_t k : AK) : AK := fun L S h => a_popC S fun _ S => k L S h
noncomputable def o_get (ci f : Nat) (mk : Nat → AV) (k : AK) : AK := fun L S h => a_popC S fun c S => a_obj h c ci fun N => k L (mk (a_dig N 64 f) :: S) h
noncomputable def o_putI (ci f : Nat) (k : AK) : AK := fun L S h => a_popI S fun v S => a_popC S fun c S => a_obj h c ci fun N => k L S (a_hset h c (Sum.inr (Sum.inl (ci, a_put N 64 f v))))
noncomputable def o_putR (ci f : Nat) (k : AK) : AK := fun L S h => a_popC S fun v S => a_if (Nat.ble v 4294967295) (a_popC S fun c S => a_obj h c ci fun N => k L S (a_hset h c (Sum.inr (Sum.inl (ci, a_put N 64 f (Nat.succ v)))))) none
noncomputable def o_ald (kind w : Nat) (mk : Nat → AV) (k : AK) : AK := fun L S h => a_popI S fun i S => a_popC S fun c S => a_arr h c kind fun n N => a_if (Nat.ble (Nat.succ i) n) (k L (mk (a_dig N w i) :: S) h) none
noncomputable def o_iast (k : AK) : AK := fun L S h => a_popI S fun v S => a_popI S fun i S => a_popC S fun c S => a_arr h c 0 fun n N => a_if (Nat.ble (Nat.succ i) n) (k L S (a_hset h c (Sum.inl (0, n, a_put N 32 i v)))) none
noncomputable def o_zast (k : AK) : AK := fun L S h => a_popI S fun v S => a_popI S fun i S => a_popC S fun c S => a_arr h c 1 fun n N => a_if (Nat.ble (Nat.succ i) n) (k L S (a_hset h c (Sum.inl (1, n, a_put N 1 i (Nat.mod v 2))))) none
noncomputable def o_last (k : AK) : AK := fun L S h => a_popL S fun v S => a_popI S fun i S => a_popC S fun c S => a_arr h c 2 fun n N => a_if (Nat.ble (Nat.succ i) n) (k L S (a_hset h c (Sum.inl (2, n, a_put N 64 i v)))) none
noncomputable def o_aald (k : AK) : AK := fun L S h => a_popI S fun i S => a_popC S fun c S => a_hget h c fun x => @Sum.rec _ _ (fun _ => AO) (fun q => a_if (Nat.ble 3 q.1) (a_if (Nat.ble (Nat.succ i) q.2.1) (k L (aR (a_dig q.2.2 32 i) :: S) h) none) none) (fun _ => none) x
noncomputable def o_alen (k : AK) : AK := fun L S h => a_popC S fun c S => a_hget h c fun x => @Sum.rec _ _ (fun _ => AO) (fun q => k L (aI q.2.1 :: S) h) (fun _ => none) x
/-- a call's arguments: of each, the last first, whether it has one slot -/
noncomputable def a_args (sh : List Bool) : ASt → ALs → (ASt → ALs → AO) → AO := @List.rec Bool (fun _ => ASt → ALs → (ASt → ALs → AO) → AO) (fun S acc k => k S acc) (fun b _ rec S acc k => a_popV S fun v S => a_if b (a_if (a_cat1 v) (rec S (some v :: acc) k) none) (a_if (a_cat1 v) none (rec S (some v :: none :: acc) k))) sh
/-- at most four values, or five of one slot each -/
noncomputable def a_sh4 (S : ASt) (x : AO) : AO := @List.rec AV (fun _ => AO) x (fun v1 S1 _ => @List.rec AV (fun _ => AO) x (fun v2 S2 _ => @List.rec AV (fun _ => AO) x (fun v3 S3 _ => @List.rec AV (fun _ => AO) x (fun v4 S4 _ => @List.rec AV (fun _ => AO) x (fun v5 S5 _ => @List.rec AV (fun _ => AO) (a_if (a_cat1 v1) (a_if (a_cat1 v2) (a_if (a_cat1 v3) (a_if (a_cat1 v4) (a_if (a_cat1 v5) x none) none) none) none) none) (fun _ _ _ => none) S5) S4) S3) S2) S1) S
noncomputable def a_back (k : AK) (L : ALs) (S : ASt) (r : AO) : AO := @Option.rec ARes (fun _ => AO) none (fun x => @Sum.rec _ _ (fun _ => AO) (fun q => @Option.rec AV (fun _ => AO) (k L S q.2) (fun v => k L (v :: S) q.2) q.1) (fun _ => none) x) r
/-- a call: the arguments' slots, what the locals are filled up with, the callee's first block; where it has a receiver, the class of that -/
noncomputable def o_call (sh : List Bool) (pad : ALs) (t k : AK) : AK := fun L S h => a_args sh S pad fun S args => a_sh4 S (a_back k L S (t args [] h))
noncomputable def a_hd (args : ALs) (k : Nat → AO) : AO := @List.rec (Option AV) (fun _ => AO) none (fun o _ _ => @Option.rec AV (fun _ => AO) none (fun v => a_isC v k) o) args
noncomputable def o_callv (ci : Nat) (sh : List Bool) (pad : ALs) (t k : AK) : AK := fun L S h => a_args sh S pad fun S args => a_hd args fun c => a_obj h c ci fun _ => a_sh4 S (a_back k L S (t args [] h))
noncomputable def o_oinit (k : AK) : AK := fun L S h => a_popC S fun _ S => a_sh4 S (k L S h)
noncomputable def a_nil (S : ASt) (x : AO) : AO := @List.rec AV (fun _ => AO) x (fun _ _ _ => none) S
noncomputable def o_reti : AK := fun _ S h => a_popV S fun v S => a_nil S (a_isI v (fun n => some (Sum.inl (some (aI n), h))) (fun g lo hi => some (Sum.inl (some (aU g lo hi), h))))
noncomputable def o_retz : AK := fun _ S h => a_popI S fun n S => a_nil S (a_if (Nat.ble n 1) (some (Sum.inl (some (aI n), h))) none)
noncomputable def o_retl : AK := fun _ S h => a_popL S fun n S => a_nil S (some (Sum.inl (some (aL n), h)))
noncomputable def o_reta : AK := fun _ S h => a_popC S fun n S => a_nil S (some (Sum.inl (some (aR (Nat.succ n)), h)))
noncomputable def o_retv : AK := fun _ S h => a_nil S (some (Sum.inl (none, h)))
noncomputable def o_stop (n : Nat) : AK := fun L S h => some (Sum.inr (n, L, S, h))
noncomputable def o_tsw (lo : Nat) (ts : List AK) (df : AK) : AK := fun L S h => a_popI S fun v S => a_if (Nat.ble lo v) (a_if (Nat.ble (Nat.succ (Nat.sub v lo)) ts.length) (a_nth (fun k : AK => k L S h) ts (Nat.sub v lo)) (df L S h)) (df L S h)
noncomputable def o_none : AK := fun _ _ _ => none
/-- the machine over a table of blocks: j is the way back to a loop's head -/
abbrev ABF : Type := AJ → AK
noncomputable def a_tv (BT : List (List ABF)) (t : Nat) : Option ABF := @Option.rec (List ABF) (fun _ => Option ABF) none (fun l => a_at l (Nat.mod t 16)) (a_at BT (Nat.div t 16))
noncomputable def a_run (BT : List (List ABF)) (fuel : Nat) : AJ := @Nat.rec (fun _ => AJ) (fun _ _ _ _ => none) (fun _ ih t L S h => @Option.rec ABF (fun _ => AO) none (fun f => f ih L S h) (a_tv BT t)) fuel
/-- the same, with stops at some heads -/
noncomputable def a_runS (BT : List (List ABF)) (st : Nat → Option Nat) (fuel : Nat) : AJ := @Nat.rec (fun _ => AJ) (fun _ _ _ _ => none) (fun _ ih t L S h => @Option.rec Nat (fun _ => AO) (@Option.rec ABF (fun _ => AO) none (fun f => f ih L S h) (a_tv BT t)) (fun p => o_stop p L S h) (st t)) fuel
