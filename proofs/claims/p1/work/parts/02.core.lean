
/-! THE JUDGEMENT gx_G. A system of fixed objects: its int fields by number, its arrays by number, their lengths: a state gx_S. The meaning of a method is a function to gx_R (none: nothing is said); gx_G V X res σ pc lv st says: from the state σ, at pc, with the locals lv and the stack st, the machine comes to the method's end, and there the state and the answer are what res says, if it says something. -/
abbrev gx_S : Type := (Nat → Int32) × (Nat → Nat → Int32) × (Nat → Nat)
abbrev gx_R : Type := Option (gx_S × Int32)
abbrev gx_U : Type := ((Nat → Nat) → gx_S → va_W) × (gx_S → Prop) × (gx_S → Nat) × (gx_S → Nat)
abbrev gx_V : Type := (va_G × List vw_C × List (ClassId × FieldType)) × gx_U
abbrev gx_X : Type := (Program × Launch × Env × Room × State × MethodId × Array Value × List Frame × Method × Code) × (Nat → Prop) × gx_S × Bool
def gx_Q (V : gx_V) (vd : Bool) (A : Nat → Prop) (σ : gx_S) (out : gx_S × Int32) : Array Value → State → Outcome → State → Prop := fun _ st oc t =>
  oc = .returned (if vd then none else some (.int out.2)) ∧ V.2.2.1 out.1 ∧ V.2.2.2.1 out.1 ≤ V.2.2.2.1 σ ∧ V.2.2.2.2 out.1 ≤ V.2.2.2.2 σ ∧ (∃ ar : Nat → Nat, va_P V.1.1 V.1.2.1 (V.2.1 ar out.1) t.heap ∧ va_D A (V.2.1 ar out.1)) ∧ va_F A st t
/-- what is fixed while a method runs -/
def gx_K (V : gx_V) (X : gx_X) (cc : ByteArray) (own : String) (nL fr lo : Nat) (rt : Option FieldType) : Prop := match X with
  | ((p, _, _, R, s, m, args, _, meth, c), A, σ0, vd) =>
    p.tables.exec = Jvm.exec ∧ c.code = cc ∧ c.maxLocals = nL ∧ s.vm.findClass own = some m.cls ∧ (∀ w ∈ gx_T, w.before args s = true) ∧ meth.sig.returnType = rt ∧ meth.locks = false ∧ va_K V.1.1 V.1.2.1 V.1.2.2 s ∧ (∀ q : Nat, s.heap.size ≤ q → A q) ∧ fr ≤ R.frames ∧ lo ≤ R.locals ∧ V.2.2.2.1 σ0 ≤ R.cells ∧ V.2.2.2.2 σ0 ≤ R.slots ∧ vd = rt.isNone
def gx_G (V : gx_V) (X : gx_X) (res : gx_R) (σ : gx_S) (pc : Nat) (lv : List (Nat × Value)) (st : List Value) : Prop := match X with
  | ((p, l, e, R, s, m, args, below, meth, c), A, σ0, vd) =>
    ∀ out, res = some out → V.2.2.1 σ → ∀ (ar : Nat → Nat) (H : Heap) (locs : List Loc) (cells slots : Nat) (ls : Array Slot), lv_has ls c.maxLocals lv → va_P V.1.1 V.1.2.1 (V.2.1 ar σ) H → va_D A (V.2.1 ar σ) → va_S A s.heap H locs → cells + V.2.2.2.1 σ ≤ V.2.2.2.1 σ0 → slots + V.2.2.2.2 σ ≤ V.2.2.2.2 σ0 →
      W p l e R s m args below meth c H locs cells slots (MQ below (gx_Q V vd A σ0 out) args s (V.2.2.2.1 σ0 - V.2.2.2.1 out.1) (V.2.2.2.2 σ0 - V.2.2.2.2 out.1) A) (F0 m pc ls st)
theorem gx_none {V : gx_V} {X : gx_X} {σ : gx_S} {pc : Nat} {lv : List (Nat × Value)} {st : List Value} : gx_G V X none σ pc lv st := by
  obtain ⟨⟨p, l, e, R, s, m, args, below, meth, c⟩, A, σ0, vd⟩ := X
  intro out h
  cases h
/-- loops and joins in the meaning of a method -/
def gx_lp {α : Type} (d : α) (f : α → α) : Nat → α
  | 0 => d
  | n + 1 => f (gx_lp d f n)
theorem gx_lpI {α : Type} {d : α} {f : α → α} (P : α → Prop) (h0 : P d) (hs : ∀ a, P a → P (f a)) : ∀ n, P (gx_lp d f n)
  | 0 => h0
  | n + 1 => hs _ (gx_lpI P h0 hs n)
def gx_jn {α : Type} (j : α) (k : α → gx_R) : gx_R := k j
def gx_bd (x : gx_R) (k : gx_S → Int32 → gx_R) : gx_R := match x with
  | none => none
  | some o => k o.1 o.2
def gx_bv (x : Int32) (k : Int32 → gx_R) : gx_R := k x
def gx_bw (x : Int64) (k : Int64 → gx_R) : gx_R := k x
def gx_sb (σ : gx_S) (k : gx_S → gx_R) : gx_R := k σ
def gx_F : Nat := 4294967296
def gx_rz (σ : gx_S) (v : Int32) : gx_R := if v = 0 ∨ v = 1 then some (σ, v) else none
section GX
variable {V : gx_V} {X : gx_X} {cc : ByteArray} {own : String} {nL fr lo : Nat} {rt : Option FieldType} {res r1 r2 : gx_R} {σ : gx_S} {pc : Nat} {lv : List (Nat × Value)} {st : List Value}
theorem gx_jnI {α : Type} {j : α} {k : α → gx_R} (P : α → Prop) (hj : P j) (hk : ∀ j, P j → gx_G V X (k j) σ pc lv st) : gx_G V X (gx_jn j k) σ pc lv st := hk j hj
theorem gx_pick (hX : gx_K V X cc own nL fr lo rt) {lv' : List (Nat × Value)} (ks : List Nat) (hl : lv_pick lv ks = lv') (k : gx_G V X res σ pc lv' st) : gx_G V X res σ pc lv st := by
  obtain ⟨⟨p, l, e, R, s, m, args, below, meth, c⟩, A, σ0, vd⟩ := X
  intro out h1 h2 ar H locs cells slots ls hls
  exact k out h1 h2 ar H locs cells slots ls (lv_sub hls ks hl)
/-- a row that moves no cell -/
theorem gx_lv (hX : gx_K V X cc own nL fr lo rt) {pc' : Nat} {lv' : List (Nat × Value)} {st' : List Value}
    (h : ∀ {p : Program} {l : Launch} {e : Env} {R : Room} {s : State} {m : MethodId} {args : Array Value} {below : List Frame} {meth : Method} {c : Code} {H : Heap} {locs : List Loc} {cells slots : Nat} {Q : State → Prop} {ls : Array Slot}, p.tables.exec = Jvm.exec → c.code = cc → lv_has ls nL lv → (∀ ls', lv_has ls' nL lv' → W p l e R s m args below meth c H locs cells slots Q (F0 m pc' ls' st')) → W p l e R s m args below meth c H locs cells slots Q (F0 m pc ls st))
    (k : gx_G V X res σ pc' lv' st') : gx_G V X res σ pc lv st := by
  obtain ⟨⟨p, l, e, R, s, m, args, below, meth, c⟩, A, σ0, vd⟩ := X
  obtain ⟨hx, hb, hml, -⟩ := hX
  intro out h1 h2 ar H locs cells slots ls hls hP hD hS hc hs
  refine h hx hb (by rw [← hml]; exact hls) (fun ls' hls' => k out h1 h2 ar H locs cells slots ls' (by rw [hml]; exact hls') hP hD hS hc hs)
/-- a branch -/
theorem gx_br (hX : gx_K V X cc own nL fr lo rt) {P : Prop} [Decidable P] {p1 p2 : Nat} {st' : List Value}
    (h : ∀ {p : Program} {l : Launch} {e : Env} {R : Room} {s : State} {m : MethodId} {args : Array Value} {below : List Frame} {meth : Method} {c : Code} {H : Heap} {locs : List Loc} {cells slots : Nat} {Q : State → Prop} {ls : Array Slot}, p.tables.exec = Jvm.exec → c.code = cc → (P → W p l e R s m args below meth c H locs cells slots Q (F0 m p1 ls st')) → (¬ P → W p l e R s m args below meth c H locs cells slots Q (F0 m p2 ls st')) → W p l e R s m args below meth c H locs cells slots Q (F0 m pc ls st))
    (k1 : P → gx_G V X r1 σ p1 lv st') (k2 : ¬ P → gx_G V X r2 σ p2 lv st') : gx_G V X (if P then r1 else r2) σ pc lv st := by
  obtain ⟨⟨p, l, e, R, s, m, args, below, meth, c⟩, A, σ0, vd⟩ := X
  obtain ⟨hx, hb, hml, -⟩ := hX
  intro out h1 h2 ar H locs cells slots ls hls hP hD hS hc hs
  refine h hx hb (fun hp => ?_) (fun hp => ?_)
  · rw [if_pos hp] at h1
    exact k1 hp out h1 h2 ar H locs cells slots ls hls hP hD hS hc hs
  · rw [if_neg hp] at h1
    exact k2 hp out h1 h2 ar H locs cells slots ls hls hP hD hS hc hs
theorem gx_iconst (hX : gx_K V X cc own nL fr lo rt) {z : Int} (v : Int32) (n : Nat) (hd : decode cc pc = .ok (.iconst z, 1)) (hv : Int32.ofInt z = v) (hn : pc + 1 = n) (k : gx_G V X res σ n lv (.int v :: st)) : gx_G V X res σ pc lv (st) := by
  subst hn
  exact gx_lv hX (fun hx hb hl kk => lv_iconst hx hb hd hv (kk _ hl)) k
theorem gx_bipush (hX : gx_K V X cc own nL fr lo rt) {z : Int} (v : Int32) (n : Nat) (hd : decode cc pc = .ok (.bipush z, 2)) (hv : (Int8.ofInt z).toInt32 = v) (hn : pc + 2 = n) (k : gx_G V X res σ n lv (.int v :: st)) : gx_G V X res σ pc lv (st) := by
  subst hn
  exact gx_lv hX (fun hx hb hl kk => lv_bipush hx hb hd hv (kk _ hl)) k
theorem gx_sipush (hX : gx_K V X cc own nL fr lo rt) {z : Int} (v : Int32) (n : Nat) (hd : decode cc pc = .ok (.sipush z, 3)) (hv : (Int16.ofInt z).toInt32 = v) (hn : pc + 3 = n) (k : gx_G V X res σ n lv (.int v :: st)) : gx_G V X res σ pc lv (st) := by
  subst hn
  exact gx_lv hX (fun hx hb hl kk => lv_sipush hx hb hd hv (kk _ hl)) k
theorem gx_lconst (hX : gx_K V X cc own nL fr lo rt) {z : Fin 2} (v : Int64) (n : Nat) (hd : decode cc pc = .ok (.lconst z, 1)) (hv : Int64.ofNat (z : Nat) = v) (hn : pc + 1 = n) (k : gx_G V X res σ n lv (.long v :: st)) : gx_G V X res σ pc lv (st) := by
  subst hn
  exact gx_lv hX (fun hx hb hl kk => lv_lconst hx hb hd hv (kk _ hl)) k
theorem gx_iload_n (hX : gx_K V X cc own nL fr lo rt) {z : Fin 4} {i : Nat} (q : Nat) {x : Int32} (n : Nat) (hd : decode cc pc = .ok (.iload_n z, 1)) (hi : (z : Nat) = i) (hq : lv[q]? = some (i, .int x)) (hn : pc + 1 = n) (k : gx_G V X res σ n lv (.int x :: st)) : gx_G V X res σ pc lv (st) := by
  subst hn
  exact gx_lv hX (fun hx hb hl kk => lv_iload_n hx hb hd hi (lv_at hl q hq) (kk _ hl)) k
theorem gx_iload (hX : gx_K V X cc own nL fr lo rt) {i : Nat} (q : Nat) {x : Int32} (n : Nat) (hd : decode cc pc = .ok (.iload i, 2)) (hq : lv[q]? = some (i, .int x)) (hn : pc + 2 = n) (k : gx_G V X res σ n lv (.int x :: st)) : gx_G V X res σ pc lv (st) := by
  subst hn
  exact gx_lv hX (fun hx hb hl kk => lv_iload hx hb hd (lv_at hl q hq) (kk _ hl)) k
theorem gx_lload_n (hX : gx_K V X cc own nL fr lo rt) {z : Fin 4} {i : Nat} (q : Nat) {x : Int64} (n : Nat) (hd : decode cc pc = .ok (.lload_n z, 1)) (hi : (z : Nat) = i) (hq : lv[q]? = some (i, .long x)) (hn : pc + 1 = n) (k : gx_G V X res σ n lv (.long x :: st)) : gx_G V X res σ pc lv (st) := by
  subst hn
  exact gx_lv hX (fun hx hb hl kk => lv_lload_n hx hb hd hi (lv_at hl q hq) (kk _ hl)) k
theorem gx_lload (hX : gx_K V X cc own nL fr lo rt) {i : Nat} (q : Nat) {x : Int64} (n : Nat) (hd : decode cc pc = .ok (.lload i, 2)) (hq : lv[q]? = some (i, .long x)) (hn : pc + 2 = n) (k : gx_G V X res σ n lv (.long x :: st)) : gx_G V X res σ pc lv (st) := by
  subst hn
  exact gx_lv hX (fun hx hb hl kk => lv_lload hx hb hd (lv_at hl q hq) (kk _ hl)) k
theorem gx_aload_n (hX : gx_K V X cc own nL fr lo rt) {z : Fin 4} {i : Nat} (q : Nat) {x : Nat} (n : Nat) (hd : decode cc pc = .ok (.aload_n z, 1)) (hi : (z : Nat) = i) (hq : lv[q]? = some (i, .ref x)) (hn : pc + 1 = n) (k : gx_G V X res σ n lv (.ref x :: st)) : gx_G V X res σ pc lv (st) := by
  subst hn
  exact gx_lv hX (fun hx hb hl kk => lv_aload_n hx hb hd hi (lv_at hl q hq) (kk _ hl)) k
theorem gx_aload (hX : gx_K V X cc own nL fr lo rt) {i : Nat} (q : Nat) {x : Nat} (n : Nat) (hd : decode cc pc = .ok (.aload i, 2)) (hq : lv[q]? = some (i, .ref x)) (hn : pc + 2 = n) (k : gx_G V X res σ n lv (.ref x :: st)) : gx_G V X res σ pc lv (st) := by
  subst hn
  exact gx_lv hX (fun hx hb hl kk => lv_aload hx hb hd (lv_at hl q hq) (kk _ hl)) k
theorem gx_istore_n (hX : gx_K V X cc own nL fr lo rt) {z : Fin 4} {i : Nat} {x : Int32} (lv' : List (Nat × Value)) (n : Nat) (hd : decode cc pc = .ok (.istore_n z, 1)) (hi : (z : Nat) = i) (hi2 : i < nL) (hl' : (i, Value.int x) :: lv.filter (fun q => !(q.1 == i) && !(q.1 + 1 == i && q.2.category == 2)) = lv') (hn : pc + 1 = n) (k : gx_G V X res σ n lv' st) : gx_G V X res σ pc lv (.int x :: st) := by
  subst hn
  exact gx_lv hX (fun hx hb hl kk => lv_istore_n hx hb hd hi hl hi2 hl' (fun ls' h' => kk ls' h')) k
theorem gx_istore (hX : gx_K V X cc own nL fr lo rt) {i : Nat} {x : Int32} (lv' : List (Nat × Value)) (n : Nat) (hd : decode cc pc = .ok (.istore i, 2)) (hi2 : i < nL) (hl' : (i, Value.int x) :: lv.filter (fun q => !(q.1 == i) && !(q.1 + 1 == i && q.2.category == 2)) = lv') (hn : pc + 2 = n) (k : gx_G V X res σ n lv' st) : gx_G V X res σ pc lv (.int x :: st) := by
  subst hn
  exact gx_lv hX (fun hx hb hl kk => lv_istore hx hb hd hl hi2 hl' (fun ls' h' => kk ls' h')) k
theorem gx_lstore_n (hX : gx_K V X cc own nL fr lo rt) {z : Fin 4} {i : Nat} {x : Int64} (lv' : List (Nat × Value)) (n : Nat) (hd : decode cc pc = .ok (.lstore_n z, 1)) (hi : (z : Nat) = i) (hi2 : i + 1 < nL) (hl' : (i, Value.long x) :: lv.filter (fun q => !(q.1 == i) && (!(q.1 == i + 1) && !(q.1 + 1 == i && q.2.category == 2))) = lv') (hn : pc + 1 = n) (k : gx_G V X res σ n lv' st) : gx_G V X res σ pc lv (.long x :: st) := by
  subst hn
  exact gx_lv hX (fun hx hb hl kk => lv_lstore_n hx hb hd hi hl hi2 hl' (fun ls' h' => kk ls' h')) k
theorem gx_lstore (hX : gx_K V X cc own nL fr lo rt) {i : Nat} {x : Int64} (lv' : List (Nat × Value)) (n : Nat) (hd : decode cc pc = .ok (.lstore i, 2)) (hi2 : i + 1 < nL) (hl' : (i, Value.long x) :: lv.filter (fun q => !(q.1 == i) && (!(q.1 == i + 1) && !(q.1 + 1 == i && q.2.category == 2))) = lv') (hn : pc + 2 = n) (k : gx_G V X res σ n lv' st) : gx_G V X res σ pc lv (.long x :: st) := by
  subst hn
  exact gx_lv hX (fun hx hb hl kk => lv_lstore hx hb hd hl hi2 hl' (fun ls' h' => kk ls' h')) k
theorem gx_astore_n (hX : gx_K V X cc own nL fr lo rt) {z : Fin 4} {i : Nat} {x : Nat} (lv' : List (Nat × Value)) (n : Nat) (hd : decode cc pc = .ok (.astore_n z, 1)) (hi : (z : Nat) = i) (hi2 : i < nL) (hl' : (i, Value.ref x) :: lv.filter (fun q => !(q.1 == i) && !(q.1 + 1 == i && q.2.category == 2)) = lv') (hn : pc + 1 = n) (k : gx_G V X res σ n lv' st) : gx_G V X res σ pc lv (.ref x :: st) := by
  subst hn
  exact gx_lv hX (fun hx hb hl kk => lv_astore_n hx hb hd hi hl hi2 hl' (fun ls' h' => kk ls' h')) k
theorem gx_astore (hX : gx_K V X cc own nL fr lo rt) {i : Nat} {x : Nat} (lv' : List (Nat × Value)) (n : Nat) (hd : decode cc pc = .ok (.astore i, 2)) (hi2 : i < nL) (hl' : (i, Value.ref x) :: lv.filter (fun q => !(q.1 == i) && !(q.1 + 1 == i && q.2.category == 2)) = lv') (hn : pc + 2 = n) (k : gx_G V X res σ n lv' st) : gx_G V X res σ pc lv (.ref x :: st) := by
  subst hn
  exact gx_lv hX (fun hx hb hl kk => lv_astore hx hb hd hl hi2 hl' (fun ls' h' => kk ls' h')) k
theorem gx_iinc (hX : gx_K V X cc own nL fr lo rt) {i q : Nat} {z : Int} {x : Int32} (v : Int32) (lv' : List (Nat × Value)) (n : Nat) (hd : decode cc pc = .ok (.iinc i z, 3)) (hq : lv[q]? = some (i, .int x)) (hv : x + Int32.ofInt z = v) (hi2 : i < nL) (hl' : (i, Value.int v) :: lv.filter (fun q => !(q.1 == i) && !(q.1 + 1 == i && q.2.category == 2)) = lv') (hn : pc + 3 = n) (k : gx_G V X res σ n lv' st) : gx_G V X res σ pc lv st := by
  subst hn
  exact gx_lv hX (fun hx hb hl kk => lv_iinc hx hb hd hl hq hv hi2 hl' (fun ls' h' => kk ls' h')) k
theorem gx_iadd (hX : gx_K V X cc own nL fr lo rt) {x y : Int32} (n : Nat) (hd : decode cc pc = .ok (.iadd, 1)) (hn : pc + 1 = n) (k : gx_G V X res σ n lv (.int (x + y) :: st)) : gx_G V X res σ pc lv (.int y :: .int x :: st) := by
  subst hn
  exact gx_lv hX (fun hx hb hl kk => lv_iadd hx hb hd (kk _ hl)) k
theorem gx_isub (hX : gx_K V X cc own nL fr lo rt) {x y : Int32} (n : Nat) (hd : decode cc pc = .ok (.isub, 1)) (hn : pc + 1 = n) (k : gx_G V X res σ n lv (.int (x - y) :: st)) : gx_G V X res σ pc lv (.int y :: .int x :: st) := by
  subst hn
  exact gx_lv hX (fun hx hb hl kk => lv_isub hx hb hd (kk _ hl)) k
theorem gx_imul (hX : gx_K V X cc own nL fr lo rt) {x y : Int32} (n : Nat) (hd : decode cc pc = .ok (.imul, 1)) (hn : pc + 1 = n) (k : gx_G V X res σ n lv (.int (x * y) :: st)) : gx_G V X res σ pc lv (.int y :: .int x :: st) := by
  subst hn
  exact gx_lv hX (fun hx hb hl kk => lv_imul hx hb hd (kk _ hl)) k
theorem gx_iand (hX : gx_K V X cc own nL fr lo rt) {x y : Int32} (n : Nat) (hd : decode cc pc = .ok (.iand, 1)) (hn : pc + 1 = n) (k : gx_G V X res σ n lv (.int (x &&& y) :: st)) : gx_G V X res σ pc lv (.int y :: .int x :: st) := by
  subst hn
  exact gx_lv hX (fun hx hb hl kk => lv_iand hx hb hd (kk _ hl)) k
theorem gx_ior (hX : gx_K V X cc own nL fr lo rt) {x y : Int32} (n : Nat) (hd : decode cc pc = .ok (.ior, 1)) (hn : pc + 1 = n) (k : gx_G V X res σ n lv (.int (x ||| y) :: st)) : gx_G V X res σ pc lv (.int y :: .int x :: st) := by
  subst hn
  exact gx_lv hX (fun hx hb hl kk => lv_ior hx hb hd (kk _ hl)) k
theorem gx_ixor (hX : gx_K V X cc own nL fr lo rt) {x y : Int32} (n : Nat) (hd : decode cc pc = .ok (.ixor, 1)) (hn : pc + 1 = n) (k : gx_G V X res σ n lv (.int (x ^^^ y) :: st)) : gx_G V X res σ pc lv (.int y :: .int x :: st) := by
  subst hn
  exact gx_lv hX (fun hx hb hl kk => lv_ixor hx hb hd (kk _ hl)) k
theorem gx_ishl (hX : gx_K V X cc own nL fr lo rt) {x y : Int32} (n : Nat) (hd : decode cc pc = .ok (.ishl, 1)) (hn : pc + 1 = n) (k : gx_G V X res σ n lv (.int (x <<< (y &&& 31)) :: st)) : gx_G V X res σ pc lv (.int y :: .int x :: st) := by
  subst hn
  exact gx_lv hX (fun hx hb hl kk => lv_ishl hx hb hd (kk _ hl)) k
theorem gx_ishr (hX : gx_K V X cc own nL fr lo rt) {x y : Int32} (n : Nat) (hd : decode cc pc = .ok (.ishr, 1)) (hn : pc + 1 = n) (k : gx_G V X res σ n lv (.int (x >>> (y &&& 31)) :: st)) : gx_G V X res σ pc lv (.int y :: .int x :: st) := by
  subst hn
  exact gx_lv hX (fun hx hb hl kk => lv_ishr hx hb hd (kk _ hl)) k
theorem gx_ineg (hX : gx_K V X cc own nL fr lo rt) {x : Int32} (n : Nat) (hd : decode cc pc = .ok (.ineg, 1)) (hn : pc + 1 = n) (k : gx_G V X res σ n lv (.int (-x) :: st)) : gx_G V X res σ pc lv (.int x :: st) := by
  subst hn
  exact gx_lv hX (fun hx hb hl kk => lv_ineg hx hb hd (kk _ hl)) k
theorem gx_iushr (hX : gx_K V X cc own nL fr lo rt) {x y : Int32} (n : Nat) (hd : decode cc pc = .ok (.iushr, 1)) (hn : pc + 1 = n) (k : gx_G V X res σ n lv (.int ((x.toUInt32 >>> (y.toUInt32 &&& Int32.toUInt32 31)).toInt32) :: st)) : gx_G V X res σ pc lv (.int y :: .int x :: st) := by
  subst hn
  exact gx_lv hX (fun hx hb hl kk => lv_iushr hx hb hd rfl (kk _ hl)) k
theorem gx_land (hX : gx_K V X cc own nL fr lo rt) {x y : Int64} (n : Nat) (hd : decode cc pc = .ok (.land, 1)) (hn : pc + 1 = n) (k : gx_G V X res σ n lv (.long (x &&& y) :: st)) : gx_G V X res σ pc lv (.long y :: .long x :: st) := by
  subst hn
  exact gx_lv hX (fun hx hb hl kk => lv_land hx hb hd (kk _ hl)) k
theorem gx_lor (hX : gx_K V X cc own nL fr lo rt) {x y : Int64} (n : Nat) (hd : decode cc pc = .ok (.lor, 1)) (hn : pc + 1 = n) (k : gx_G V X res σ n lv (.long (x ||| y) :: st)) : gx_G V X res σ pc lv (.long y :: .long x :: st) := by
  subst hn
  exact gx_lv hX (fun hx hb hl kk => lv_lor hx hb hd (kk _ hl)) k
theorem gx_lxor (hX : gx_K V X cc own nL fr lo rt) {x y : Int64} (n : Nat) (hd : decode cc pc = .ok (.lxor, 1)) (hn : pc + 1 = n) (k : gx_G V X res σ n lv (.long (x ^^^ y) :: st)) : gx_G V X res σ pc lv (.long y :: .long x :: st) := by
  subst hn
  exact gx_lv hX (fun hx hb hl kk => lv_lxor hx hb hd (kk _ hl)) k
theorem gx_ladd (hX : gx_K V X cc own nL fr lo rt) {x y : Int64} (n : Nat) (hd : decode cc pc = .ok (.ladd, 1)) (hn : pc + 1 = n) (k : gx_G V X res σ n lv (.long (x + y) :: st)) : gx_G V X res σ pc lv (.long y :: .long x :: st) := by
  subst hn
  exact gx_lv hX (fun hx hb hl kk => lv_ladd hx hb hd (kk _ hl)) k
theorem gx_lsub (hX : gx_K V X cc own nL fr lo rt) {x y : Int64} (n : Nat) (hd : decode cc pc = .ok (.lsub, 1)) (hn : pc + 1 = n) (k : gx_G V X res σ n lv (.long (x - y) :: st)) : gx_G V X res σ pc lv (.long y :: .long x :: st) := by
  subst hn
  exact gx_lv hX (fun hx hb hl kk => lv_lsub hx hb hd (kk _ hl)) k
theorem gx_lmul (hX : gx_K V X cc own nL fr lo rt) {x y : Int64} (n : Nat) (hd : decode cc pc = .ok (.lmul, 1)) (hn : pc + 1 = n) (k : gx_G V X res σ n lv (.long (x * y) :: st)) : gx_G V X res σ pc lv (.long y :: .long x :: st) := by
  subst hn
  exact gx_lv hX (fun hx hb hl kk => lv_lmul hx hb hd (kk _ hl)) k
theorem gx_lushr (hX : gx_K V X cc own nL fr lo rt) {x : Int64} {y : Int32} (n : Nat) (hd : decode cc pc = .ok (.lushr, 1)) (hn : pc + 1 = n) (k : gx_G V X res σ n lv (.long ((x.toUInt64 >>> (y.toInt64.toUInt64 &&& Int64.toUInt64 63)).toInt64) :: st)) : gx_G V X res σ pc lv (.int y :: .long x :: st) := by
  subst hn
  exact gx_lv hX (fun hx hb hl kk => lv_lushr hx hb hd rfl (kk _ hl)) k
theorem gx_lshl (hX : gx_K V X cc own nL fr lo rt) {x : Int64} {y : Int32} (n : Nat) (hd : decode cc pc = .ok (.lshl, 1)) (hn : pc + 1 = n) (k : gx_G V X res σ n lv (.long (x <<< (y.toInt64 &&& 63)) :: st)) : gx_G V X res σ pc lv (.int y :: .long x :: st) := by
  subst hn
  exact gx_lv hX (fun hx hb hl kk => lv_lshl hx hb hd rfl (kk _ hl)) k
theorem gx_lshr (hX : gx_K V X cc own nL fr lo rt) {x : Int64} {y : Int32} (n : Nat) (hd : decode cc pc = .ok (.lshr, 1)) (hn : pc + 1 = n) (k : gx_G V X res σ n lv (.long (x >>> (y.toInt64 &&& 63)) :: st)) : gx_G V X res σ pc lv (.int y :: .long x :: st) := by
  subst hn
  exact gx_lv hX (fun hx hb hl kk => lv_lshr hx hb hd rfl (kk _ hl)) k
theorem gx_i2l (hX : gx_K V X cc own nL fr lo rt) {x : Int32} (n : Nat) (hd : decode cc pc = .ok (.i2l, 1)) (hn : pc + 1 = n) (k : gx_G V X res σ n lv (.long x.toInt64 :: st)) : gx_G V X res σ pc lv (.int x :: st) := by
  subst hn
  exact gx_lv hX (fun hx hb hl kk => lv_i2l hx hb hd rfl (kk _ hl)) k
theorem gx_l2i (hX : gx_K V X cc own nL fr lo rt) {x : Int64} (n : Nat) (hd : decode cc pc = .ok (.l2i, 1)) (hn : pc + 1 = n) (k : gx_G V X res σ n lv (.int x.toInt32 :: st)) : gx_G V X res σ pc lv (.long x :: st) := by
  subst hn
  exact gx_lv hX (fun hx hb hl kk => lv_l2i hx hb hd rfl (kk _ hl)) k
theorem gx_i2b (hX : gx_K V X cc own nL fr lo rt) {x : Int32} (n : Nat) (hd : decode cc pc = .ok (.i2b, 1)) (hn : pc + 1 = n) (k : gx_G V X res σ n lv (.int x.toInt8.toInt32 :: st)) : gx_G V X res σ pc lv (.int x :: st) := by
  subst hn
  exact gx_lv hX (fun hx hb hl kk => lv_i2b hx hb hd rfl (kk _ hl)) k
theorem gx_i2s (hX : gx_K V X cc own nL fr lo rt) {x : Int32} (n : Nat) (hd : decode cc pc = .ok (.i2s, 1)) (hn : pc + 1 = n) (k : gx_G V X res σ n lv (.int x.toInt16.toInt32 :: st)) : gx_G V X res σ pc lv (.int x :: st) := by
  subst hn
  exact gx_lv hX (fun hx hb hl kk => lv_i2s hx hb hd rfl (kk _ hl)) k
theorem gx_dup (hX : gx_K V X cc own nL fr lo rt) {a : Value} (n : Nat) (hd : decode cc pc = .ok (.dup, 1)) (ha : a.category = 1) (hn : pc + 1 = n) (k : gx_G V X res σ n lv (a :: a :: st)) : gx_G V X res σ pc lv (a :: st) := by
  subst hn
  exact gx_lv hX (fun hx hb hl kk => lv_dup hx hb hd ha (kk _ hl)) k
theorem gx_pop (hX : gx_K V X cc own nL fr lo rt) {a : Value} (n : Nat) (hd : decode cc pc = .ok (.pop, 1)) (ha : a.category = 1) (hn : pc + 1 = n) (k : gx_G V X res σ n lv (st)) : gx_G V X res σ pc lv (a :: st) := by
  subst hn
  exact gx_lv hX (fun hx hb hl kk => lv_pop hx hb hd ha (kk _ hl)) k
theorem gx_dup_x1 (hX : gx_K V X cc own nL fr lo rt) {a b : Value} (n : Nat) (hd : decode cc pc = .ok (.dup_x1, 1)) (ha : a.category = 1) (hb2 : b.category = 1) (hn : pc + 1 = n) (k : gx_G V X res σ n lv (a :: b :: a :: st)) : gx_G V X res σ pc lv (a :: b :: st) := by
  subst hn
  exact gx_lv hX (fun hx hb hl kk => lv_dup_x1 hx hb hd ha hb2 (kk _ hl)) k
theorem gx_dup2 (hX : gx_K V X cc own nL fr lo rt) {a b : Value} (n : Nat) (hd : decode cc pc = .ok (.dup2, 1)) (ha : a.category = 1) (hb2 : b.category = 1) (hn : pc + 1 = n) (k : gx_G V X res σ n lv (a :: b :: a :: b :: st)) : gx_G V X res σ pc lv (a :: b :: st) := by
  subst hn
  exact gx_lv hX (fun hx hb hl kk => lv_dup2_11 hx hb hd ha hb2 (kk _ hl)) k
theorem gx_icmp_eq (hX : gx_K V X cc own nL fr lo rt) {x y : Int32} {off : Int} (tgt n : Nat) (hd : decode cc pc = .ok (.if_icmp .eq off, 3)) (ht : (pc : Int) + off = (tgt : Int)) (hn : pc + 3 = n) (k1 : x = y → gx_G V X r1 σ tgt lv st) (k2 : ¬ x = y → gx_G V X r2 σ n lv st) : gx_G V X (if x = y then r1 else r2) σ pc lv (.int y :: .int x :: st) := by
  subst hn
  exact gx_br hX (fun hx hb a b => lv_icmp_eq hx hb hd ht a b) k1 k2
theorem gx_if_eq (hX : gx_K V X cc own nL fr lo rt) {x : Int32} {off : Int} (tgt n : Nat) (hd : decode cc pc = .ok (.ifCond .eq off, 3)) (ht : (pc : Int) + off = (tgt : Int)) (hn : pc + 3 = n) (k1 : x = 0 → gx_G V X r1 σ tgt lv st) (k2 : ¬ x = 0 → gx_G V X r2 σ n lv st) : gx_G V X (if x = 0 then r1 else r2) σ pc lv (.int x :: st) := by
  subst hn
  exact gx_br hX (fun hx hb a b => lv_if_eq hx hb hd ht a b) k1 k2
theorem gx_icmp_ne (hX : gx_K V X cc own nL fr lo rt) {x y : Int32} {off : Int} (tgt n : Nat) (hd : decode cc pc = .ok (.if_icmp .ne off, 3)) (ht : (pc : Int) + off = (tgt : Int)) (hn : pc + 3 = n) (k1 : ¬ x = y → gx_G V X r1 σ tgt lv st) (k2 : x = y → gx_G V X r2 σ n lv st) : gx_G V X (if x = y then r2 else r1) σ pc lv (.int y :: .int x :: st) := by
  subst hn
  exact gx_br hX (fun hx hb a b => lv_icmp_ne hx hb hd ht b a) k2 k1
theorem gx_if_ne (hX : gx_K V X cc own nL fr lo rt) {x : Int32} {off : Int} (tgt n : Nat) (hd : decode cc pc = .ok (.ifCond .ne off, 3)) (ht : (pc : Int) + off = (tgt : Int)) (hn : pc + 3 = n) (k1 : ¬ x = 0 → gx_G V X r1 σ tgt lv st) (k2 : x = 0 → gx_G V X r2 σ n lv st) : gx_G V X (if x = 0 then r2 else r1) σ pc lv (.int x :: st) := by
  subst hn
  exact gx_br hX (fun hx hb a b => lv_if_ne hx hb hd ht b a) k2 k1
theorem gx_icmp_lt (hX : gx_K V X cc own nL fr lo rt) {x y : Int32} {off : Int} (tgt n : Nat) (hd : decode cc pc = .ok (.if_icmp .lt off, 3)) (ht : (pc : Int) + off = (tgt : Int)) (hn : pc + 3 = n) (k1 : x < y → gx_G V X r1 σ tgt lv st) (k2 : ¬ x < y → gx_G V X r2 σ n lv st) : gx_G V X (if x < y then r1 else r2) σ pc lv (.int y :: .int x :: st) := by
  subst hn
  exact gx_br hX (fun hx hb a b => lv_icmp_lt hx hb hd ht a b) k1 k2
theorem gx_if_lt (hX : gx_K V X cc own nL fr lo rt) {x : Int32} {off : Int} (tgt n : Nat) (hd : decode cc pc = .ok (.ifCond .lt off, 3)) (ht : (pc : Int) + off = (tgt : Int)) (hn : pc + 3 = n) (k1 : x < 0 → gx_G V X r1 σ tgt lv st) (k2 : ¬ x < 0 → gx_G V X r2 σ n lv st) : gx_G V X (if x < 0 then r1 else r2) σ pc lv (.int x :: st) := by
  subst hn
  exact gx_br hX (fun hx hb a b => lv_if_lt hx hb hd ht a b) k1 k2
theorem gx_icmp_ge (hX : gx_K V X cc own nL fr lo rt) {x y : Int32} {off : Int} (tgt n : Nat) (hd : decode cc pc = .ok (.if_icmp .ge off, 3)) (ht : (pc : Int) + off = (tgt : Int)) (hn : pc + 3 = n) (k1 : y ≤ x → gx_G V X r1 σ tgt lv st) (k2 : ¬ y ≤ x → gx_G V X r2 σ n lv st) : gx_G V X (if y ≤ x then r1 else r2) σ pc lv (.int y :: .int x :: st) := by
  subst hn
  exact gx_br hX (fun hx hb a b => lv_icmp_ge hx hb hd ht a b) k1 k2
theorem gx_if_ge (hX : gx_K V X cc own nL fr lo rt) {x : Int32} {off : Int} (tgt n : Nat) (hd : decode cc pc = .ok (.ifCond .ge off, 3)) (ht : (pc : Int) + off = (tgt : Int)) (hn : pc + 3 = n) (k1 : 0 ≤ x → gx_G V X r1 σ tgt lv st) (k2 : ¬ 0 ≤ x → gx_G V X r2 σ n lv st) : gx_G V X (if 0 ≤ x then r1 else r2) σ pc lv (.int x :: st) := by
  subst hn
  exact gx_br hX (fun hx hb a b => lv_if_ge hx hb hd ht a b) k1 k2
theorem gx_icmp_gt (hX : gx_K V X cc own nL fr lo rt) {x y : Int32} {off : Int} (tgt n : Nat) (hd : decode cc pc = .ok (.if_icmp .gt off, 3)) (ht : (pc : Int) + off = (tgt : Int)) (hn : pc + 3 = n) (k1 : y < x → gx_G V X r1 σ tgt lv st) (k2 : ¬ y < x → gx_G V X r2 σ n lv st) : gx_G V X (if y < x then r1 else r2) σ pc lv (.int y :: .int x :: st) := by
  subst hn
  exact gx_br hX (fun hx hb a b => lv_icmp_gt hx hb hd ht a b) k1 k2
theorem gx_if_gt (hX : gx_K V X cc own nL fr lo rt) {x : Int32} {off : Int} (tgt n : Nat) (hd : decode cc pc = .ok (.ifCond .gt off, 3)) (ht : (pc : Int) + off = (tgt : Int)) (hn : pc + 3 = n) (k1 : 0 < x → gx_G V X r1 σ tgt lv st) (k2 : ¬ 0 < x → gx_G V X r2 σ n lv st) : gx_G V X (if 0 < x then r1 else r2) σ pc lv (.int x :: st) := by
  subst hn
  exact gx_br hX (fun hx hb a b => lv_if_gt hx hb hd ht a b) k1 k2
theorem gx_icmp_le (hX : gx_K V X cc own nL fr lo rt) {x y : Int32} {off : Int} (tgt n : Nat) (hd : decode cc pc = .ok (.if_icmp .le off, 3)) (ht : (pc : Int) + off = (tgt : Int)) (hn : pc + 3 = n) (k1 : x ≤ y → gx_G V X r1 σ tgt lv st) (k2 : ¬ x ≤ y → gx_G V X r2 σ n lv st) : gx_G V X (if x ≤ y then r1 else r2) σ pc lv (.int y :: .int x :: st) := by
  subst hn
  exact gx_br hX (fun hx hb a b => lv_icmp_le hx hb hd ht a b) k1 k2
theorem gx_if_le (hX : gx_K V X cc own nL fr lo rt) {x : Int32} {off : Int} (tgt n : Nat) (hd : decode cc pc = .ok (.ifCond .le off, 3)) (ht : (pc : Int) + off = (tgt : Int)) (hn : pc + 3 = n) (k1 : x ≤ 0 → gx_G V X r1 σ tgt lv st) (k2 : ¬ x ≤ 0 → gx_G V X r2 σ n lv st) : gx_G V X (if x ≤ 0 then r1 else r2) σ pc lv (.int x :: st) := by
  subst hn
  exact gx_br hX (fun hx hb a b => lv_if_le hx hb hd ht a b) k1 k2
theorem gx_goto (hX : gx_K V X cc own nL fr lo rt) {off : Int} (tgt : Nat) (hd : decode cc pc = .ok (.goto off, 3)) (ht : (pc : Int) + off = (tgt : Int)) (k : gx_G V X res σ tgt lv st) : gx_G V X res σ pc lv st := gx_lv hX (fun hx hb hl kk => lv_goto hx hb hd ht (kk _ hl)) k
theorem gx_bvN {e : Int32} {k : Int32 → gx_R} (kk : ∀ x, gx_G V X (k x) σ pc lv (.int x :: st)) : gx_G V X (gx_bv e k) σ pc lv (.int e :: st) := kk e
theorem gx_bwN {e : Int64} {k : Int64 → gx_R} (kk : ∀ x, gx_G V X (k x) σ pc lv (.long x :: st)) : gx_G V X (gx_bw e k) σ pc lv (.long e :: st) := kk e
theorem gx_iincN (hX : gx_K V X cc own nL fr lo rt) {i q : Nat} {z : Int} {x e : Int32} {k : Int32 → gx_R} (lv' : Int32 → List (Nat × Value)) (n : Nat) (hd : decode cc pc = .ok (.iinc i z, 3)) (hq : lv[q]? = some (i, .int x)) (hv : x + Int32.ofInt z = e) (hi2 : i < nL) (hl' : ∀ v, (i, Value.int v) :: lv.filter (fun q => !(q.1 == i) && !(q.1 + 1 == i && q.2.category == 2)) = lv' v) (hn : pc + 3 = n) (kk : ∀ v, gx_G V X (k v) σ n (lv' v) st) : gx_G V X (gx_bv e k) σ pc lv st := gx_iinc hX e (lv' e) n hd hq hv hi2 (hl' e) hn (kk e)
theorem gx_ldc (hX : gx_K V X cc own nL fr lo rt) {idx : Nat} (v : Int32) (n : Nat) (hd : decode cc pc = .ok (.ldc idx, 2)) (hw : Cond.constant own idx v ∈ gx_T) (hn : pc + 2 = n) (k : gx_G V X res σ n lv (.int v :: st)) : gx_G V X res σ pc lv st := by
  subst hn
  obtain ⟨⟨p, l, e, R, s, m, args, below, meth, c⟩, A, σ0, vd⟩ := X
  obtain ⟨hx, hb, hml, hown, hts, -⟩ := hX
  intro out h1 h2 ar H locs cells slots ls hls hP hD hS hc hs
  exact lv_ldc hx hb hown (hts _ hw) hd (k out h1 h2 ar H locs cells slots ls hls hP hD hS hc hs)
theorem gx_ldc2 (hX : gx_K V X cc own nL fr lo rt) {idx : Nat} (v : Int64) (n : Nat) (hd : decode cc pc = .ok (.ldc2_w idx, 3)) (hw : Cond.constantLong own idx v ∈ gx_T) (hn : pc + 3 = n) (k : gx_G V X res σ n lv (.long v :: st)) : gx_G V X res σ pc lv st := by
  subst hn
  obtain ⟨⟨p, l, e, R, s, m, args, below, meth, c⟩, A, σ0, vd⟩ := X
  obtain ⟨hx, hb, hml, hown, hts, -⟩ := hX
  intro out h1 h2 ar H locs cells slots ls hls hP hD hS hc hs
  exact lv_ldc2 hx hb hown (hts _ hw) hd (k out h1 h2 ar H locs cells slots ls hls hP hD hS hc hs)
theorem gx_tsw3 (hX : gx_K V X cc own nL fr lo rt) {x : Int32} {dflt : Int} {offs : Array Int} {len : Nat} {z0 z1 z2 zd : gx_R} (t0 t1 t2 td : Nat) (hd : decode cc pc = .ok (.tableswitch dflt 0 2 offs, len)) (h0 : offs[0]?.map (fun o => (pc : Int) + o) = some (t0 : Int)) (h1 : offs[1]?.map (fun o => (pc : Int) + o) = some (t1 : Int)) (h2 : offs[2]?.map (fun o => (pc : Int) + o) = some (t2 : Int)) (hdf : (pc : Int) + dflt = (td : Int)) (k0 : gx_G V X z0 σ t0 lv st) (k1 : gx_G V X z1 σ t1 lv st) (k2 : gx_G V X z2 σ t2 lv st) (kd : gx_G V X zd σ td lv st) : gx_G V X (if x = 0 then z0 else if x = 1 then z1 else if x = 2 then z2 else zd) σ pc lv (.int x :: st) := by
  obtain ⟨o0, e0, f0⟩ : ∃ o, offs[0]? = some o ∧ (pc : Int) + o = (t0 : Int) := by
    cases hq : offs[0]? with
    | none => rw [hq] at h0; cases h0
    | some o => rw [hq] at h0; exact ⟨o, rfl, Option.some.inj h0⟩
  obtain ⟨o1, e1, f1⟩ : ∃ o, offs[1]? = some o ∧ (pc : Int) + o = (t1 : Int) := by
    cases hq : offs[1]? with
    | none => rw [hq] at h1; cases h1
    | some o => rw [hq] at h1; exact ⟨o, rfl, Option.some.inj h1⟩
  obtain ⟨o2, e2, f2⟩ : ∃ o, offs[2]? = some o ∧ (pc : Int) + o = (t2 : Int) := by
    cases hq : offs[2]? with
    | none => rw [hq] at h2; cases h2
    | some o => rw [hq] at h2; exact ⟨o, rfl, Option.some.inj h2⟩
  by_cases c0 : x = 0
  · subst c0
    rw [if_pos (rfl : (0 : Int32) = 0)]
    exact gx_lv hX (fun hx hb hl kk => lv_tableIn hx hb hd (by decide) (by decide) (show offs[(Int32.toInt 0 - 0).toNat]? = some o0 from e0) f0 (kk _ hl)) k0
  by_cases c1 : x = 1
  · subst c1
    rw [if_neg (show ¬ (1 : Int32) = 0 by decide)]; rw [if_pos (rfl : (1 : Int32) = 1)]
    exact gx_lv hX (fun hx hb hl kk => lv_tableIn hx hb hd (by decide) (by decide) (show offs[(Int32.toInt 1 - 0).toNat]? = some o1 from e1) f1 (kk _ hl)) k1
  by_cases c2 : x = 2
  · subst c2
    rw [if_neg (show ¬ (2 : Int32) = 0 by decide)]; rw [if_neg (show ¬ (2 : Int32) = 1 by decide)]; rw [if_pos (rfl : (2 : Int32) = 2)]
    exact gx_lv hX (fun hx hb hl kk => lv_tableIn hx hb hd (by decide) (by decide) (show offs[(Int32.toInt 2 - 0).toNat]? = some o2 from e2) f2 (kk _ hl)) k2
  rw [if_neg c0]
  rw [if_neg c1]
  rw [if_neg c2]
  refine gx_lv hX (fun hx hb hl kk => lv_tableOut hx hb hd ?_ hdf (kk _ hl)) kd
  have n0 : ¬ x.toInt = 0 := lv_neT (k := 0) c0 (by decide)
  have n1 : ¬ x.toInt = 1 := lv_neT (k := 1) c1 (by decide)
  have n2 : ¬ x.toInt = 2 := lv_neT (k := 2) c2 (by decide)
  omega
theorem gx_tsw7 (hX : gx_K V X cc own nL fr lo rt) {x : Int32} {dflt : Int} {offs : Array Int} {len : Nat} {z0 z1 z2 z3 z4 z5 z6 zd : gx_R} (t0 t1 t2 t3 t4 t5 t6 td : Nat) (hd : decode cc pc = .ok (.tableswitch dflt 0 6 offs, len)) (h0 : offs[0]?.map (fun o => (pc : Int) + o) = some (t0 : Int)) (h1 : offs[1]?.map (fun o => (pc : Int) + o) = some (t1 : Int)) (h2 : offs[2]?.map (fun o => (pc : Int) + o) = some (t2 : Int)) (h3 : offs[3]?.map (fun o => (pc : Int) + o) = some (t3 : Int)) (h4 : offs[4]?.map (fun o => (pc : Int) + o) = some (t4 : Int)) (h5 : offs[5]?.map (fun o => (pc : Int) + o) = some (t5 : Int)) (h6 : offs[6]?.map (fun o => (pc : Int) + o) = some (t6 : Int)) (hdf : (pc : Int) + dflt = (td : Int)) (k0 : gx_G V X z0 σ t0 lv st) (k1 : gx_G V X z1 σ t1 lv st) (k2 : gx_G V X z2 σ t2 lv st) (k3 : gx_G V X z3 σ t3 lv st) (k4 : gx_G V X z4 σ t4 lv st) (k5 : gx_G V X z5 σ t5 lv st) (k6 : gx_G V X z6 σ t6 lv st) (kd : gx_G V X zd σ td lv st) : gx_G V X (if x = 0 then z0 else if x = 1 then z1 else if x = 2 then z2 else if x = 3 then z3 else if x = 4 then z4 else if x = 5 then z5 else if x = 6 then z6 else zd) σ pc lv (.int x :: st) := by
  obtain ⟨o0, e0, f0⟩ : ∃ o, offs[0]? = some o ∧ (pc : Int) + o = (t0 : Int) := by
    cases hq : offs[0]? with
    | none => rw [hq] at h0; cases h0
    | some o => rw [hq] at h0; exact ⟨o, rfl, Option.some.inj h0⟩
  obtain ⟨o1, e1, f1⟩ : ∃ o, offs[1]? = some o ∧ (pc : Int) + o = (t1 : Int) := by
    cases hq : offs[1]? with
    | none => rw [hq] at h1; cases h1
    | some o => rw [hq] at h1; exact ⟨o, rfl, Option.some.inj h1⟩
  obtain ⟨o2, e2, f2⟩ : ∃ o, offs[2]? = some o ∧ (pc : Int) + o = (t2 : Int) := by
    cases hq : offs[2]? with
    | none => rw [hq] at h2; cases h2
    | some o => rw [hq] at h2; exact ⟨o, rfl, Option.some.inj h2⟩
  obtain ⟨o3, e3, f3⟩ : ∃ o, offs[3]? = some o ∧ (pc : Int) + o = (t3 : Int) := by
    cases hq : offs[3]? with
    | none => rw [hq] at h3; cases h3
    | some o => rw [hq] at h3; exact ⟨o, rfl, Option.some.inj h3⟩
  obtain ⟨o4, e4, f4⟩ : ∃ o, offs[4]? = some o ∧ (pc : Int) + o = (t4 : Int) := by
    cases hq : offs[4]? with
    | none => rw [hq] at h4; cases h4
    | some o => rw [hq] at h4; exact ⟨o, rfl, Option.some.inj h4⟩
  obtain ⟨o5, e5, f5⟩ : ∃ o, offs[5]? = some o ∧ (pc : Int) + o = (t5 : Int) := by
    cases hq : offs[5]? with
    | none => rw [hq] at h5; cases h5
    | some o => rw [hq] at h5; exact ⟨o, rfl, Option.some.inj h5⟩
  obtain ⟨o6, e6, f6⟩ : ∃ o, offs[6]? = some o ∧ (pc : Int) + o = (t6 : Int) := by
    cases hq : offs[6]? with
    | none => rw [hq] at h6; cases h6
    | some o => rw [hq] at h6; exact ⟨o, rfl, Option.some.inj h6⟩
  by_cases c0 : x = 0
  · subst c0
    rw [if_pos (rfl : (0 : Int32) = 0)]
    exact gx_lv hX (fun hx hb hl kk => lv_tableIn hx hb hd (by decide) (by decide) (show offs[(Int32.toInt 0 - 0).toNat]? = some o0 from e0) f0 (kk _ hl)) k0
  by_cases c1 : x = 1
  · subst c1
    rw [if_neg (show ¬ (1 : Int32) = 0 by decide)]; rw [if_pos (rfl : (1 : Int32) = 1)]
    exact gx_lv hX (fun hx hb hl kk => lv_tableIn hx hb hd (by decide) (by decide) (show offs[(Int32.toInt 1 - 0).toNat]? = some o1 from e1) f1 (kk _ hl)) k1
  by_cases c2 : x = 2
  · subst c2
    rw [if_neg (show ¬ (2 : Int32) = 0 by decide)]; rw [if_neg (show ¬ (2 : Int32) = 1 by decide)]; rw [if_pos (rfl : (2 : Int32) = 2)]
    exact gx_lv hX (fun hx hb hl kk => lv_tableIn hx hb hd (by decide) (by decide) (show offs[(Int32.toInt 2 - 0).toNat]? = some o2 from e2) f2 (kk _ hl)) k2
  by_cases c3 : x = 3
  · subst c3
    rw [if_neg (show ¬ (3 : Int32) = 0 by decide)]; rw [if_neg (show ¬ (3 : Int32) = 1 by decide)]; rw [if_neg (show ¬ (3 : Int32) = 2 by decide)]; rw [if_pos (rfl : (3 : Int32) = 3)]
    exact gx_lv hX (fun hx hb hl kk => lv_tableIn hx hb hd (by decide) (by decide) (show offs[(Int32.toInt 3 - 0).toNat]? = some o3 from e3) f3 (kk _ hl)) k3
  by_cases c4 : x = 4
  · subst c4
    rw [if_neg (show ¬ (4 : Int32) = 0 by decide)]; rw [if_neg (show ¬ (4 : Int32) = 1 by decide)]; rw [if_neg (show ¬ (4 : Int32) = 2 by decide)]; rw [if_neg (show ¬ (4 : Int32) = 3 by decide)]; rw [if_pos (rfl : (4 : Int32) = 4)]
    exact gx_lv hX (fun hx hb hl kk => lv_tableIn hx hb hd (by decide) (by decide) (show offs[(Int32.toInt 4 - 0).toNat]? = some o4 from e4) f4 (kk _ hl)) k4
  by_cases c5 : x = 5
  · subst c5
    rw [if_neg (show ¬ (5 : Int32) = 0 by decide)]; rw [if_neg (show ¬ (5 : Int32) = 1 by decide)]; rw [if_neg (show ¬ (5 : Int32) = 2 by decide)]; rw [if_neg (show ¬ (5 : Int32) = 3 by decide)]; rw [if_neg (show ¬ (5 : Int32) = 4 by decide)]; rw [if_pos (rfl : (5 : Int32) = 5)]
    exact gx_lv hX (fun hx hb hl kk => lv_tableIn hx hb hd (by decide) (by decide) (show offs[(Int32.toInt 5 - 0).toNat]? = some o5 from e5) f5 (kk _ hl)) k5
  by_cases c6 : x = 6
  · subst c6
    rw [if_neg (show ¬ (6 : Int32) = 0 by decide)]; rw [if_neg (show ¬ (6 : Int32) = 1 by decide)]; rw [if_neg (show ¬ (6 : Int32) = 2 by decide)]; rw [if_neg (show ¬ (6 : Int32) = 3 by decide)]; rw [if_neg (show ¬ (6 : Int32) = 4 by decide)]; rw [if_neg (show ¬ (6 : Int32) = 5 by decide)]; rw [if_pos (rfl : (6 : Int32) = 6)]
    exact gx_lv hX (fun hx hb hl kk => lv_tableIn hx hb hd (by decide) (by decide) (show offs[(Int32.toInt 6 - 0).toNat]? = some o6 from e6) f6 (kk _ hl)) k6
  rw [if_neg c0]
  rw [if_neg c1]
  rw [if_neg c2]
  rw [if_neg c3]
  rw [if_neg c4]
  rw [if_neg c5]
  rw [if_neg c6]
  refine gx_lv hX (fun hx hb hl kk => lv_tableOut hx hb hd ?_ hdf (kk _ hl)) kd
  have n0 : ¬ x.toInt = 0 := lv_neT (k := 0) c0 (by decide)
  have n1 : ¬ x.toInt = 1 := lv_neT (k := 1) c1 (by decide)
  have n2 : ¬ x.toInt = 2 := lv_neT (k := 2) c2 (by decide)
  have n3 : ¬ x.toInt = 3 := lv_neT (k := 3) c3 (by decide)
  have n4 : ¬ x.toInt = 4 := lv_neT (k := 4) c4 (by decide)
  have n5 : ¬ x.toInt = 5 := lv_neT (k := 5) c5 (by decide)
  have n6 : ¬ x.toInt = 6 := lv_neT (k := 6) c6 (by decide)
  omega
theorem gx_tsw9 (hX : gx_K V X cc own nL fr lo rt) {x : Int32} {dflt : Int} {offs : Array Int} {len : Nat} {z0 z1 z2 z3 z4 z5 z6 z7 z8 zd : gx_R} (t0 t1 t2 t3 t4 t5 t6 t7 t8 td : Nat) (hd : decode cc pc = .ok (.tableswitch dflt 0 8 offs, len)) (h0 : offs[0]?.map (fun o => (pc : Int) + o) = some (t0 : Int)) (h1 : offs[1]?.map (fun o => (pc : Int) + o) = some (t1 : Int)) (h2 : offs[2]?.map (fun o => (pc : Int) + o) = some (t2 : Int)) (h3 : offs[3]?.map (fun o => (pc : Int) + o) = some (t3 : Int)) (h4 : offs[4]?.map (fun o => (pc : Int) + o) = some (t4 : Int)) (h5 : offs[5]?.map (fun o => (pc : Int) + o) = some (t5 : Int)) (h6 : offs[6]?.map (fun o => (pc : Int) + o) = some (t6 : Int)) (h7 : offs[7]?.map (fun o => (pc : Int) + o) = some (t7 : Int)) (h8 : offs[8]?.map (fun o => (pc : Int) + o) = some (t8 : Int)) (hdf : (pc : Int) + dflt = (td : Int)) (k0 : gx_G V X z0 σ t0 lv st) (k1 : gx_G V X z1 σ t1 lv st) (k2 : gx_G V X z2 σ t2 lv st) (k3 : gx_G V X z3 σ t3 lv st) (k4 : gx_G V X z4 σ t4 lv st) (k5 : gx_G V X z5 σ t5 lv st) (k6 : gx_G V X z6 σ t6 lv st) (k7 : gx_G V X z7 σ t7 lv st) (k8 : gx_G V X z8 σ t8 lv st) (kd : gx_G V X zd σ td lv st) : gx_G V X (if x = 0 then z0 else if x = 1 then z1 else if x = 2 then z2 else if x = 3 then z3 else if x = 4 then z4 else if x = 5 then z5 else if x = 6 then z6 else if x = 7 then z7 else if x = 8 then z8 else zd) σ pc lv (.int x :: st) := by
  obtain ⟨o0, e0, f0⟩ : ∃ o, offs[0]? = some o ∧ (pc : Int) + o = (t0 : Int) := by
    cases hq : offs[0]? with
    | none => rw [hq] at h0; cases h0
    | some o => rw [hq] at h0; exact ⟨o, rfl, Option.some.inj h0⟩
  obtain ⟨o1, e1, f1⟩ : ∃ o, offs[1]? = some o ∧ (pc : Int) + o = (t1 : Int) := by
    cases hq : offs[1]? with
    | none => rw [hq] at h1; cases h1
    | some o => rw [hq] at h1; exact ⟨o, rfl, Option.some.inj h1⟩
  obtain ⟨o2, e2, f2⟩ : ∃ o, offs[2]? = some o ∧ (pc : Int) + o = (t2 : Int) := by
    cases hq : offs[2]? with
    | none => rw [hq] at h2; cases h2
    | some o => rw [hq] at h2; exact ⟨o, rfl, Option.some.inj h2⟩
  obtain ⟨o3, e3, f3⟩ : ∃ o, offs[3]? = some o ∧ (pc : Int) + o = (t3 : Int) := by
    cases hq : offs[3]? with
    | none => rw [hq] at h3; cases h3
    | some o => rw [hq] at h3; exact ⟨o, rfl, Option.some.inj h3⟩
  obtain ⟨o4, e4, f4⟩ : ∃ o, offs[4]? = some o ∧ (pc : Int) + o = (t4 : Int) := by
    cases hq : offs[4]? with
    | none => rw [hq] at h4; cases h4
    | some o => rw [hq] at h4; exact ⟨o, rfl, Option.some.inj h4⟩
  obtain ⟨o5, e5, f5⟩ : ∃ o, offs[5]? = some o ∧ (pc : Int) + o = (t5 : Int) := by
    cases hq : offs[5]? with
    | none => rw [hq] at h5; cases h5
    | some o => rw [hq] at h5; exact ⟨o, rfl, Option.some.inj h5⟩
  obtain ⟨o6, e6, f6⟩ : ∃ o, offs[6]? = some o ∧ (pc : Int) + o = (t6 : Int) := by
    cases hq : offs[6]? with
    | none => rw [hq] at h6; cases h6
    | some o => rw [hq] at h6; exact ⟨o, rfl, Option.some.inj h6⟩
  obtain ⟨o7, e7, f7⟩ : ∃ o, offs[7]? = some o ∧ (pc : Int) + o = (t7 : Int) := by
    cases hq : offs[7]? with
    | none => rw [hq] at h7; cases h7
    | some o => rw [hq] at h7; exact ⟨o, rfl, Option.some.inj h7⟩
  obtain ⟨o8, e8, f8⟩ : ∃ o, offs[8]? = some o ∧ (pc : Int) + o = (t8 : Int) := by
    cases hq : offs[8]? with
    | none => rw [hq] at h8; cases h8
    | some o => rw [hq] at h8; exact ⟨o, rfl, Option.some.inj h8⟩
  by_cases c0 : x = 0
  · subst c0
    rw [if_pos (rfl : (0 : Int32) = 0)]
    exact gx_lv hX (fun hx hb hl kk => lv_tableIn hx hb hd (by decide) (by decide) (show offs[(Int32.toInt 0 - 0).toNat]? = some o0 from e0) f0 (kk _ hl)) k0
  by_cases c1 : x = 1
  · subst c1
    rw [if_neg (show ¬ (1 : Int32) = 0 by decide)]; rw [if_pos (rfl : (1 : Int32) = 1)]
    exact gx_lv hX (fun hx hb hl kk => lv_tableIn hx hb hd (by decide) (by decide) (show offs[(Int32.toInt 1 - 0).toNat]? = some o1 from e1) f1 (kk _ hl)) k1
  by_cases c2 : x = 2
  · subst c2
    rw [if_neg (show ¬ (2 : Int32) = 0 by decide)]; rw [if_neg (show ¬ (2 : Int32) = 1 by decide)]; rw [if_pos (rfl : (2 : Int32) = 2)]
    exact gx_lv hX (fun hx hb hl kk => lv_tableIn hx hb hd (by decide) (by decide) (show offs[(Int32.toInt 2 - 0).toNat]? = some o2 from e2) f2 (kk _ hl)) k2
  by_cases c3 : x = 3
  · subst c3
    rw [if_neg (show ¬ (3 : Int32) = 0 by decide)]; rw [if_neg (show ¬ (3 : Int32) = 1 by decide)]; rw [if_neg (show ¬ (3 : Int32) = 2 by decide)]; rw [if_pos (rfl : (3 : Int32) = 3)]
    exact gx_lv hX (fun hx hb hl kk => lv_tableIn hx hb hd (by decide) (by decide) (show offs[(Int32.toInt 3 - 0).toNat]? = some o3 from e3) f3 (kk _ hl)) k3
  by_cases c4 : x = 4
  · subst c4
    rw [if_neg (show ¬ (4 : Int32) = 0 by decide)]; rw [if_neg (show ¬ (4 : Int32) = 1 by decide)]; rw [if_neg (show ¬ (4 : Int32) = 2 by decide)]; rw [if_neg (show ¬ (4 : Int32) = 3 by decide)]; rw [if_pos (rfl : (4 : Int32) = 4)]
    exact gx_lv hX (fun hx hb hl kk => lv_tableIn hx hb hd (by decide) (by decide) (show offs[(Int32.toInt 4 - 0).toNat]? = some o4 from e4) f4 (kk _ hl)) k4
  by_cases c5 : x = 5
  · subst c5
    rw [if_neg (show ¬ (5 : Int32) = 0 by decide)]; rw [if_neg (show ¬ (5 : Int32) = 1 by decide)]; rw [if_neg (show ¬ (5 : Int32) = 2 by decide)]; rw [if_neg (show ¬ (5 : Int32) = 3 by decide)]; rw [if_neg (show ¬ (5 : Int32) = 4 by decide)]; rw [if_pos (rfl : (5 : Int32) = 5)]
    exact gx_lv hX (fun hx hb hl kk => lv_tableIn hx hb hd (by decide) (by decide) (show offs[(Int32.toInt 5 - 0).toNat]? = some o5 from e5) f5 (kk _ hl)) k5
  by_cases c6 : x = 6
  · subst c6
    rw [if_neg (show ¬ (6 : Int32) = 0 by decide)]; rw [if_neg (show ¬ (6 : Int32) = 1 by decide)]; rw [if_neg (show ¬ (6 : Int32) = 2 by decide)]; rw [if_neg (show ¬ (6 : Int32) = 3 by decide)]; rw [if_neg (show ¬ (6 : Int32) = 4 by decide)]; rw [if_neg (show ¬ (6 : Int32) = 5 by decide)]; rw [if_pos (rfl : (6 : Int32) = 6)]
    exact gx_lv hX (fun hx hb hl kk => lv_tableIn hx hb hd (by decide) (by decide) (show offs[(Int32.toInt 6 - 0).toNat]? = some o6 from e6) f6 (kk _ hl)) k6
  by_cases c7 : x = 7
  · subst c7
    rw [if_neg (show ¬ (7 : Int32) = 0 by decide)]; rw [if_neg (show ¬ (7 : Int32) = 1 by decide)]; rw [if_neg (show ¬ (7 : Int32) = 2 by decide)]; rw [if_neg (show ¬ (7 : Int32) = 3 by decide)]; rw [if_neg (show ¬ (7 : Int32) = 4 by decide)]; rw [if_neg (show ¬ (7 : Int32) = 5 by decide)]; rw [if_neg (show ¬ (7 : Int32) = 6 by decide)]; rw [if_pos (rfl : (7 : Int32) = 7)]
    exact gx_lv hX (fun hx hb hl kk => lv_tableIn hx hb hd (by decide) (by decide) (show offs[(Int32.toInt 7 - 0).toNat]? = some o7 from e7) f7 (kk _ hl)) k7
  by_cases c8 : x = 8
  · subst c8
    rw [if_neg (show ¬ (8 : Int32) = 0 by decide)]; rw [if_neg (show ¬ (8 : Int32) = 1 by decide)]; rw [if_neg (show ¬ (8 : Int32) = 2 by decide)]; rw [if_neg (show ¬ (8 : Int32) = 3 by decide)]; rw [if_neg (show ¬ (8 : Int32) = 4 by decide)]; rw [if_neg (show ¬ (8 : Int32) = 5 by decide)]; rw [if_neg (show ¬ (8 : Int32) = 6 by decide)]; rw [if_neg (show ¬ (8 : Int32) = 7 by decide)]; rw [if_pos (rfl : (8 : Int32) = 8)]
    exact gx_lv hX (fun hx hb hl kk => lv_tableIn hx hb hd (by decide) (by decide) (show offs[(Int32.toInt 8 - 0).toNat]? = some o8 from e8) f8 (kk _ hl)) k8
  rw [if_neg c0]
  rw [if_neg c1]
  rw [if_neg c2]
  rw [if_neg c3]
  rw [if_neg c4]
  rw [if_neg c5]
  rw [if_neg c6]
  rw [if_neg c7]
  rw [if_neg c8]
  refine gx_lv hX (fun hx hb hl kk => lv_tableOut hx hb hd ?_ hdf (kk _ hl)) kd
  have n0 : ¬ x.toInt = 0 := lv_neT (k := 0) c0 (by decide)
  have n1 : ¬ x.toInt = 1 := lv_neT (k := 1) c1 (by decide)
  have n2 : ¬ x.toInt = 2 := lv_neT (k := 2) c2 (by decide)
  have n3 : ¬ x.toInt = 3 := lv_neT (k := 3) c3 (by decide)
  have n4 : ¬ x.toInt = 4 := lv_neT (k := 4) c4 (by decide)
  have n5 : ¬ x.toInt = 5 := lv_neT (k := 5) c5 (by decide)
  have n6 : ¬ x.toInt = 6 := lv_neT (k := 6) c6 (by decide)
  have n7 : ¬ x.toInt = 7 := lv_neT (k := 7) c7 (by decide)
  have n8 : ¬ x.toInt = 8 := lv_neT (k := 8) c8 (by decide)
  omega
theorem gx_lcmp (hX : gx_K V X cc own nL fr lo rt) {x y : Int64} (n : Nat) (hd : decode cc pc = .ok (.lcmp, 1)) (hn : pc + 1 = n) (k : gx_G V X res σ n lv (.int (lg_cmp x y) :: st)) : gx_G V X res σ pc lv (.long y :: .long x :: st) := by
  subst hn
  exact gx_lv hX (fun hx hb hl kk => W.lcmp hx hb hd (kk _ hl)) k
/-- ends -/
theorem gx_ret (hX : gx_K V X cc own nL fr lo (some .int)) {v : Int32} (hd : decode cc pc = .ok (.ireturn, 1)) : gx_G V X (some (σ, v)) σ pc lv [.int v] := by
  obtain ⟨⟨p, l, e, R, s, m, args, below, meth, c⟩, A, σ0, vd⟩ := X
  obtain ⟨hx, hb, hml, hown, hts, hr, hlocks, hK, hA, -, -, -, -, hvd⟩ := hX
  intro out h1 h2 ar H locs cells slots ls hls hP hD hS hc hs
  cases h1
  subst hvd
  refine W.widen (k := V.2.2.2.1 σ0 - V.2.2.2.1 σ) (n := V.2.2.2.2 σ0 - V.2.2.2.2 σ) (by omega) (by omega) ?_
  exact W.iret hx hb hr (fun t ht hW => ⟨rfl, h2, by dsimp only; omega, by dsimp only; omega, ⟨ar, by rw [ht]; exact hP, hD⟩, hS.F ht⟩) hS.2.2 hd hlocks
theorem gx_retz (hX : gx_K V X cc own nL fr lo (some .boolean)) {v : Int32} (hd : decode cc pc = .ok (.ireturn, 1)) : gx_G V X (gx_rz σ v) σ pc lv [.int v] := by
  obtain ⟨⟨p, l, e, R, s, m, args, below, meth, c⟩, A, σ0, vd⟩ := X
  obtain ⟨hx, hb, hml, hown, hts, hr, hlocks, hK, hA, -, -, -, -, hvd⟩ := hX
  intro out h1 h2 ar H locs cells slots ls hls hP hD hS hc hs
  by_cases hv : v = 0 ∨ v = 1
  · rw [gx_rz, if_pos hv] at h1
    cases h1
    subst hvd
    refine W.widen (k := V.2.2.2.1 σ0 - V.2.2.2.1 σ) (n := V.2.2.2.2 σ0 - V.2.2.2.2 σ) (by omega) (by omega) ?_
    exact W.zret hx hb hr (by rcases hv with rfl | rfl <;> decide +kernel) (fun t ht hW => ⟨rfl, h2, by dsimp only; omega, by dsimp only; omega, ⟨ar, by rw [ht]; exact hP, hD⟩, hS.F ht⟩) hS.2.2 hd hlocks
  · rw [gx_rz, if_neg hv] at h1
    cases h1
theorem gx_retv (hX : gx_K V X cc own nL fr lo none) {v : Int32} (hd : decode cc pc = .ok (.return_, 1)) : gx_G V X (some (σ, v)) σ pc lv [] := by
  obtain ⟨⟨p, l, e, R, s, m, args, below, meth, c⟩, A, σ0, vd⟩ := X
  obtain ⟨hx, hb, hml, hown, hts, hr, hlocks, hK, hA, -, -, -, -, hvd⟩ := hX
  intro out h1 h2 ar H locs cells slots ls hls hP hD hS hc hs
  cases h1
  subst hvd
  refine W.widen (k := V.2.2.2.1 σ0 - V.2.2.2.1 σ) (n := V.2.2.2.2 σ0 - V.2.2.2.2 σ) (by omega) (by omega) ?_
  exact W.vret hx hb hr (fun t ht hW => ⟨rfl, h2, by dsimp only; omega, by dsimp only; omega, ⟨ar, by rw [ht]; exact hP, hD⟩, hS.F ht⟩) hS.2.2 hd hlocks
end GX
