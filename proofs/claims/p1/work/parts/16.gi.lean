/-- the words of links between nest mates: they go with the state, from call to call -/
def gi_Z : List Cond := [(Jvm.Cond.methodLinkNest "TypeLoom" (11 : Nat) ({ cls := "TypeLoom$Constructors", name := "<init>", desc := "()V" } : Jvm.MethodName) "TypeLoom"), (Jvm.Cond.methodLinkNest "TypeLoom" (18 : Nat) ({ cls := "TypeLoom$Pushed", name := "<init>", desc := "()V" } : Jvm.MethodName) "TypeLoom"), (Jvm.Cond.methodLinkNest "TypeLoom" (25 : Nat) ({ cls := "TypeLoom$Web", name := "<init>", desc := "()V" } : Jvm.MethodName) "TypeLoom")]
theorem gi_Zin : ∀ w ∈ gi_Z, w ∈ lw_tbl := List.forall_mem_cons.mpr ⟨List.mem_of_getElem? (i := 93) (by decide +kernel), List.forall_mem_cons.mpr ⟨List.mem_of_getElem? (i := 124) (by decide +kernel), List.forall_mem_cons.mpr ⟨List.mem_of_getElem? (i := 149) (by decide +kernel), fun _ h => absurd h List.not_mem_nil⟩⟩⟩
theorem gi_Ztab : ∀ w ∈ gi_Z, w.onTables = true := by decide +kernel
theorem gi_Zwarm {s U : State} (hW : s.WarmedH U.vm) : ∀ w ∈ gi_Z, va_Nw w s → va_Nw w U := List.forall_mem_cons.mpr ⟨fun h => va_Nw.warmM hW h, List.forall_mem_cons.mpr ⟨fun h => va_Nw.warmM hW h, List.forall_mem_cons.mpr ⟨fun h => va_Nw.warmM hW h, fun _ h => absurd h List.not_mem_nil⟩⟩⟩
theorem tz_0 : (Jvm.Cond.methodLinkNest "TypeLoom" (11 : Nat) ({ cls := "TypeLoom$Constructors", name := "<init>", desc := "()V" } : Jvm.MethodName) "TypeLoom") ∈ gi_Z := List.mem_of_getElem? (i := 0) rfl
theorem tz_1 : (Jvm.Cond.methodLinkNest "TypeLoom" (18 : Nat) ({ cls := "TypeLoom$Pushed", name := "<init>", desc := "()V" } : Jvm.MethodName) "TypeLoom") ∈ gi_Z := List.mem_of_getElem? (i := 1) rfl
theorem tz_2 : (Jvm.Cond.methodLinkNest "TypeLoom" (25 : Nat) ({ cls := "TypeLoom$Web", name := "<init>", desc := "()V" } : Jvm.MethodName) "TypeLoom") ∈ gi_Z := List.mem_of_getElem? (i := 2) rfl
/-! MAKING: the walk of a constructor, over a list of cells: gi_G; its contract gi_C: from the object's own blank cell to a list that Post allows -/
def gi_Q (D : va_G) (cl : List vw_C) (A : Nat → Prop) (Post : va_W → Prop) : Array Value → State → Outcome → State → Prop := fun _ st oc t =>
  oc = .returned none ∧ (∃ ws, Post ws ∧ va_P D cl ws t.heap ∧ va_D A ws) ∧ va_F A st t
abbrev gi_V : Type := va_G × List vw_C × List (ClassId × FieldType)
def gi_K (V : gi_V) (X : gx_X) (cc : ByteArray) (own : String) (nL fr lo mc ms : Nat) : Prop := match X with
  | ((p, _, _, R, s, m, args, _, meth, c), A, _, _) =>
    p.tables.exec = Jvm.exec ∧ c.code = cc ∧ c.maxLocals = nL ∧ s.vm.findClass own = some m.cls ∧ (∀ w ∈ gx_T, w.before args s = true) ∧ meth.sig.returnType = none ∧ meth.locks = false ∧ va_K V.1 V.2.1 V.2.2 s ∧ (∀ q : Nat, s.heap.size ≤ q → A q) ∧ fr ≤ R.frames ∧ lo ≤ R.locals ∧ mc ≤ R.cells ∧ ms ≤ R.slots ∧ meth.name = "<init>" ∧ ∀ w ∈ gi_Z, va_Nw w s
def gi_G (V : gi_V) (X : gx_X) (Post : va_W → Prop) (mc ms : Nat) (ws : va_W) (cn sn : Nat) (pc : Nat) (lv : List (Nat × Value)) (st : List Value) : Prop := match X with
  | ((p, l, e, R, s, m, args, below, meth, c), A, _, _) =>
    ∀ (H : Heap) (locs : List Loc) (ls : Array Slot), lv_has ls c.maxLocals lv → va_P V.1 V.2.1 ws H → va_D A ws → va_S A s.heap H locs →
      W p l e R s m args below meth c H locs cn sn (MQ below (gi_Q V.1 V.2.1 A Post) args s mc ms A) (F0 m pc ls st)
def gi_C (l : Launch) (V : gi_V) (y : MethodName) (cc : ByteArray) (mL fr lo mc ms : Nat) (ci : Nat) (fs : List Value) (As : List Value) (Post : Nat → va_W → Prop) : Prop :=
  ∀ (h0 sz : Nat), Met l y (Cond.code y cc mL none :: gx_T) { frames := fr, cells := mc, slots := ms, locals := lo } (va_Pc (.ref h0 :: As) (fun U => U.heap.size = sz ∧ va_P V.1 V.2.1 [(h0, .inr (ci, fs))] U.heap ∧ va_K V.1 V.2.1 V.2.2 U ∧ va_D (fun _ => True) [(h0, .inr (ci, fs))] ∧ ∀ w ∈ gi_Z, va_Nw w U)) (gi_Q V.1 V.2.1 (va_A [(h0, .inr (ci, fs))] sz) (Post h0)) mc ms (va_A [(h0, .inr (ci, fs))] sz)
theorem gi_met {l : Launch} {V : gi_V} {y : MethodName} {cc : ByteArray} {mL fr lo mc ms ci : Nat} {fs As : List Value} {Post : Nat → va_W → Prop} {own : String} (hy : plainName y.cls = true) (hown : y.cls = own) (hin : y.name = "<init>") (hlen : ∀ h0 : Nat, (lg_sl (.ref h0 :: As)).length ≤ mL)
    (h : ∀ (X : gx_X) (h0 : Nat), X.1.2.1 = l → gi_K V X cc own mL fr lo mc ms → gi_G V X (Post h0) mc ms [(h0, .inr (ci, fs))] 0 0 0 (lv_args 0 (.ref h0 :: As)) []) : gi_C l V y cc mL fr lo mc ms ci fs As Post := by
  intro h0 sz
  refine Met.ofW (cc := cc) (maxL := mL) (ret := none) hy rfl ?_
  intro p e s m args below meth c s₁ B hml hv
  obtain ⟨rfl, hsz, hP, hK, hD0, hZ⟩ := hv
  subst hsz
  subst hown
  have hts := atoms_spec (ws := Cond.code y cc mL none :: gx_T) B.pre
  have hcls : s.vm.findClass y.cls = some m.cls := findClass_of_methodNamed B.named
  have hnm : meth.name = "<init>" := (name_of_methodNamed B.named B.method).1.trans hin
  have hD := hD0.self (sz := s.heap.size)
  have hl := lv_entry (.ref h0 :: As) (n := mL) (hlen h0)
  rw [lg_entry_eq]
  exact h ((p, l, e, _, s, m, _, below, meth, c), va_A [(h0, .inr (ci, fs))] s.heap.size, (fun _ => 0, fun _ _ => 0, fun _ => 0), true) h0 rfl ⟨B.exec, B.bytes, hml, hcls, fun w hw => hts w (List.mem_cons_of_mem _ hw), B.returns, B.notSynchronized, hK, fun q hq => Or.inr hq, Nat.le_refl _, Nat.le_refl _, Nat.le_refl _, Nat.le_refl _, hnm, hZ⟩ s.heap [] _ (by rw [hml]; exact hl) hP hD va_S.rf
theorem gi_join {A : Nat → Prop} {D : va_G} {cl : List vw_C} {wr wc w1 : va_W} {H H1 : Heap} (hP : va_P D cl (wr ++ wc) H) (hD : va_D A (wr ++ wc)) (hk : ∀ q : Nat, q < H.size → ¬ va_A wc H.size q → H1[q]? = H[q]?) (hsub : ∀ q, va_A wc H.size q → A q) (hP1 : va_P D cl w1 H1) (hD1 : va_D (va_A wc H.size) w1) : va_P D cl (wr ++ w1) H1 ∧ va_D A (wr ++ w1) := by
  have hl : ∀ (k : Nat) (q : Nat × va_E), wr[k]? = some q → (wr ++ wc)[k]? = some q := fun k q h => by
    rw [List.getElem?_append_left (List.getElem?_eq_some_iff.mp h).1]; exact h
  have apart : ∀ (k : Nat) (q : Nat × va_E), wr[k]? = some q → q.1 < H.size ∧ ¬ va_A wc H.size q.1 := by
    intro k q h
    have hlt := (hP k q (hl k q h)).lt
    refine ⟨hlt, fun ha => ?_⟩
    rcases ha with ⟨k2, e, h2⟩ | ha
    · have h3 : (wr ++ wc)[wr.length + k2]? = some (q.1, e) := by rw [List.getElem?_append_right (by omega), show wr.length + k2 - wr.length = k2 by omega]; exact h2
      have h4 := hD.1 k (wr.length + k2) q (q.1, e) (hl k q h) h3 rfl
      have h5 := (List.getElem?_eq_some_iff.mp h).1
      omega
    · omega
  refine ⟨va_P.app (fun k q h => (hP k q (hl k q h)).kept (hk q.1 (apart k q h).1 (apart k q h).2)) hP1, va_D.app ⟨fun i j p q h1 h2 e => hD.1 i j p q (hl i p h1) (hl j q h2) e, fun k q h => hD.2 k q (hl k q h)⟩ (hD1.weaken (fun k q _ h => hsub q.1 h)) (fun i j x y hx hy e => ?_)⟩
  exact (apart i x hx).2 (by rw [e]; exact hD1.2 j y hy)
section GI
variable {V : gi_V} {X : gx_X} {cc : ByteArray} {own : String} {nL fr lo mc ms : Nat} {Post : va_W → Prop} {ws : va_W} {cn sn pc : Nat} {lv : List (Nat × Value)} {st : List Value}
theorem gi_lv (hX : gi_K V X cc own nL fr lo mc ms) {pc' : Nat} {lv' : List (Nat × Value)} {st' : List Value}
    (h : ∀ {p : Program} {l : Launch} {e : Env} {R : Room} {s : State} {m : MethodId} {args : Array Value} {below : List Frame} {meth : Method} {c : Code} {H : Heap} {locs : List Loc} {cells slots : Nat} {Q : State → Prop} {ls : Array Slot}, p.tables.exec = Jvm.exec → c.code = cc → lv_has ls nL lv → (∀ ls', lv_has ls' nL lv' → W p l e R s m args below meth c H locs cells slots Q (F0 m pc' ls' st')) → W p l e R s m args below meth c H locs cells slots Q (F0 m pc ls st))
    (k : gi_G V X Post mc ms ws cn sn pc' lv' st') : gi_G V X Post mc ms ws cn sn pc lv st := by
  obtain ⟨⟨p, l, e, R, s, m, args, below, meth, c⟩, A, σ0, vd⟩ := X
  obtain ⟨hx, hb, hml, -⟩ := hX
  intro H locs ls hls hP hD hS
  exact h hx hb (by rw [← hml]; exact hls) (fun ls' hls' => k H locs ls' (by rw [hml]; exact hls') hP hD hS)
theorem gi_aload_n (hX : gi_K V X cc own nL fr lo mc ms) {z : Fin 4} {i x : Nat} (q n : Nat) (hd : decode cc pc = .ok (.aload_n z, 1)) (hi : (z : Nat) = i) (hq : lv[q]? = some (i, .ref x)) (hn : pc + 1 = n) (k : gi_G V X Post mc ms ws cn sn n lv (.ref x :: st)) : gi_G V X Post mc ms ws cn sn pc lv st := by
  subst hn
  exact gi_lv hX (fun hx hb hl kk => lv_aload_n hx hb hd hi (lv_at hl q hq) (kk _ hl)) k
theorem gi_iload_n (hX : gi_K V X cc own nL fr lo mc ms) {z : Fin 4} {i : Nat} {x : Int32} (q n : Nat) (hd : decode cc pc = .ok (.iload_n z, 1)) (hi : (z : Nat) = i) (hq : lv[q]? = some (i, .int x)) (hn : pc + 1 = n) (k : gi_G V X Post mc ms ws cn sn n lv (.int x :: st)) : gi_G V X Post mc ms ws cn sn pc lv st := by
  subst hn
  exact gi_lv hX (fun hx hb hl kk => lv_iload_n hx hb hd hi (lv_at hl q hq) (kk _ hl)) k
theorem gi_iconst (hX : gi_K V X cc own nL fr lo mc ms) {z : Int} (v : Int32) (n : Nat) (hd : decode cc pc = .ok (.iconst z, 1)) (hv : Int32.ofInt z = v) (hn : pc + 1 = n) (k : gi_G V X Post mc ms ws cn sn n lv (.int v :: st)) : gi_G V X Post mc ms ws cn sn pc lv st := by
  subst hn
  exact gi_lv hX (fun hx hb hl kk => lv_iconst hx hb hd hv (kk _ hl)) k
theorem gi_bipush (hX : gi_K V X cc own nL fr lo mc ms) {z : Int} (v : Int32) (n : Nat) (hd : decode cc pc = .ok (.bipush z, 2)) (hv : (Int8.ofInt z).toInt32 = v) (hn : pc + 2 = n) (k : gi_G V X Post mc ms ws cn sn n lv (.int v :: st)) : gi_G V X Post mc ms ws cn sn pc lv st := by
  subst hn
  exact gi_lv hX (fun hx hb hl kk => lv_bipush hx hb hd hv (kk _ hl)) k
theorem gi_sipush (hX : gi_K V X cc own nL fr lo mc ms) {z : Int} (v : Int32) (n : Nat) (hd : decode cc pc = .ok (.sipush z, 3)) (hv : (Int16.ofInt z).toInt32 = v) (hn : pc + 3 = n) (k : gi_G V X Post mc ms ws cn sn n lv (.int v :: st)) : gi_G V X Post mc ms ws cn sn pc lv st := by
  subst hn
  exact gi_lv hX (fun hx hb hl kk => lv_sipush hx hb hd hv (kk _ hl)) k
theorem gi_dup (hX : gi_K V X cc own nL fr lo mc ms) {a : Value} (n : Nat) (hd : decode cc pc = .ok (.dup, 1)) (ha : a.category = 1) (hn : pc + 1 = n) (k : gi_G V X Post mc ms ws cn sn n lv (a :: a :: st)) : gi_G V X Post mc ms ws cn sn pc lv (a :: st) := by
  subst hn
  exact gi_lv hX (fun hx hb hl kk => lv_dup hx hb hd ha (kk _ hl)) k
theorem gi_ldc (hX : gi_K V X cc own nL fr lo mc ms) {idx : Nat} (v : Int32) (n : Nat) (hd : decode cc pc = .ok (.ldc idx, 2)) (hw : Cond.constant own idx v ∈ gx_T) (hn : pc + 2 = n) (k : gi_G V X Post mc ms ws cn sn n lv (.int v :: st)) : gi_G V X Post mc ms ws cn sn pc lv st := by
  subst hn
  obtain ⟨⟨p, l, e, R, s, m, args, below, meth, c⟩, A, σ0, vd⟩ := X
  obtain ⟨hx, hb, hml, hown, hts, -⟩ := hX
  intro H locs ls hls hP hD hS
  exact lv_ldc hx hb hown (hts _ hw) hd (k H locs ls hls hP hD hS)
theorem gi_obj (hX : gi_K V X cc own nL fr lo mc ms) {idx a : Nat} (n : Nat) (hlink : Cond.methodLink own idx objectInit ∈ gx_T) (hinst : Cond.instanceMethod objectInit ∈ gx_T) (hcode : Cond.code objectInit ⟨#[0xb1]⟩ 1 none ∈ gx_T) (hfr : 1 ≤ fr) (hlo : 12 ≤ lo) (hd : decode cc pc = .ok (.invokespecial idx, 3)) (hn : pc + 3 = n) (k : gi_G V X Post mc ms ws cn sn n lv []) : gi_G V X Post mc ms ws cn sn pc lv [.ref a] := by
  subst hn
  obtain ⟨⟨p, l, e, R, s, m, args, below, meth, c⟩, A, σ0, vd⟩ := X
  obtain ⟨hx, hb, hml, hown, hts, -, -, -, -, hf, hl', -⟩ := hX
  intro H locs ls hls hP hD hS
  refine W.objInit hx hb hown (hts _ hlink) (hts _ hinst) (hts _ hcode) rfl hls.1 rfl hd (by omega) (by show 2 * 0 + 0 + 12 ≤ R.locals; omega) ?_
  exact k H locs ls hls hP hD hS
theorem gi_new (hX : gi_K V X cc own nL fr lo mc ms) {C : String} {T : u_T} {N ci idx : Nat} (ty : Nat → FieldType) (fs : List Value) (n : Nat) (hc : V.2.1[ci]? = some (C, T, N)) (hin : ∀ w ∈ u_ws C T N, w ∈ gx_T) (hty : ∀ k, k < N → parseFieldDescriptor (T k).2.2.1 = some (ty k)) (hfs : ∀ j, j < N → defaultValue (ty j) = vp_V fs j) (hcl : Cond.classLink own idx C ∈ gx_T) (hinst : Cond.instantiable C N ∈ gx_T) (hini : Cond.initialized C ∈ gx_T) (hcn : cn + 1 ≤ mc) (hsn : sn + N ≤ ms) (hd : decode cc pc = .ok (.new idx, 3)) (hn : pc + 3 = n)
    (k : ∀ q, gi_G V X Post mc ms (ws ++ [(q, .inr (ci, fs))]) (cn + 1) (sn + N) n lv (.ref q :: st)) : gi_G V X Post mc ms ws cn sn pc lv st := by
  subst hn
  obtain ⟨⟨p, l, e, R, s, m, args, below, meth, c⟩, A, σ0, vd⟩ := X
  obtain ⟨hx, hb, hml, hown, hts, hr, hlocks, hK, hA, hf, hl', hRc, hRs, hnm, hZ⟩ := hX
  intro H locs ls hls hP hD hS
  exact va_new (ci := ci) (fs := fs) hx hb hts hin ty hty hown (hts _ hcl) (hts _ hinst) (hts _ hini) hK hP hD hS hA hc hfs (Nat.le_trans hcn hRc) (Nat.le_trans hsn hRs) hd (fun q H1 hP1 hD1 hS1 => k q H1 locs ls hls hP1 hD1 hS1)
theorem gi_newa (hX : gi_K V X cc own nL fr lo mc ms) {at_ : ArrayType} {ty : FieldType} {cA : ClassId} {x : Int32} (t0 n N : Nat) (harr : Cond.arrayClass (newarray.typeOf at_) ∈ gx_T) (hty : newarray.typeOf at_ = ty) (ht : V.2.2[t0]? = some (cA, ty)) (hRA : ∀ U c1 c2, va_RA U c1 ty → va_RA U c2 ty → c1 = c2) (hcell : ∀ c : ClassId, vp_cell c (N, .inl (fun _ => 0)) = arrV c N (fun _ => defaultValue ty)) (hx0 : ¬ x < 0) (hN : x.toNatClampNeg = N) (hbytes : N * componentBytes ty ≤ 536870912) (hcn : cn + 1 ≤ mc) (hsn : sn + N ≤ ms) (hd : decode cc pc = .ok (.newarray at_, 2)) (hn : pc + 2 = n)
    (k : ∀ q, gi_G V X Post mc ms (ws ++ [(q, .inl (cA, N, .inl (fun _ => 0)))]) (cn + 1) (sn + N) n lv (.ref q :: st)) : gi_G V X Post mc ms ws cn sn pc lv (.int x :: st) := by
  subst hn
  obtain ⟨⟨p, l, e, R, s, m, args, below, meth, c⟩, A, σ0, vd⟩ := X
  obtain ⟨hx, hb, hml, hown, hts, hr, hlocks, hK, hA, hf, hl', hRc, hRs, hnm, hZ⟩ := hX
  intro H locs ls hls hP hD hS
  refine va_newa (a0 := (N, .inl (fun _ => 0))) hx hb (hts _ harr) hty hK hP hD hS hA hcell hx0 hN hbytes (Nat.le_trans hcn hRc) (Nat.le_trans hsn hRs) hd (fun q cA' H1 hK1 hP1 hD1 hS1 => ?_)
  have h1 := (hK.2 t0 _ ht).2
  have h2 := (hK1.2 V.2.2.length (cA', ty) (by rw [List.getElem?_append_right (Nat.le_refl _), Nat.sub_self]; rfl)).2
  have he : cA' = cA := hRA _ _ _ h2 h1
  subst he
  exact k q H1 locs ls hls hP1 hD1 hS1
/-- putfield on the object itself, the first of the list -/
theorem gi_putF (hX : gi_K V X cc own nL fr lo mc ms) {C : String} {T : u_T} {N ci idx h0 : Nat} {fs : List Value} {rest : va_W} {v : Value} {ty : FieldType} (f n : Nat) (fs' : List Value) (hc : V.2.1[ci]? = some (C, T, N)) (hin : ∀ w ∈ u_ws C T N, w ∈ gx_T) (ty0 : Nat → FieldType) (hty : ∀ k, k < N → parseFieldDescriptor (T k).2.2.1 = some (ty0 k)) (hnm : ∀ a, a < N → ∀ b, b < N → a ≠ b → (T a).2.1 ≠ (T b).2.1) (hf : f < N) (hlink : Cond.fieldLink own idx (T f).1 (T f).2.1 (T f).2.2.1 ∈ gx_T) (hfin : (T f).2.2.2 = true) (hdecl : (T f).1 = own) (hdd : parseFieldDescriptor (T f).2.2.1 = some ty) (hnr : narrow ty v = v) (hfit : fits ty v = true) (hl : f < fs.length) (hfs : fs.set f v = fs') (hd : decode cc pc = .ok (.putfield idx, 3)) (hn : pc + 3 = n)
    (k : gi_G V X Post mc ms ((h0, .inr (ci, fs')) :: rest) cn sn n lv st) : gi_G V X Post mc ms ((h0, .inr (ci, fs)) :: rest) cn sn pc lv (v :: .ref h0 :: st) := by
  subst hn
  subst hfs
  obtain ⟨⟨p, l, e, R, s, m, args, below, meth, c⟩, A, σ0, vd⟩ := X
  obtain ⟨hx, hb, hml, hown, hts, hr, hlocks, hK, hA, hf', hl', hRc, hRs, hin2, hZ⟩ := hX
  intro H locs ls hls hP hD hS
  exact va_putF (ci := ci) hx hb hts hin ty0 hty hnm hown hK hP hD hS 0 rfl hc f hf (hts _ hlink) (fun _ h => h) hfin hin2 hdecl hdd hnr hfit hl hd (fun H1 locs1 hP1 hD1 hS1 => k H1 locs1 ls hls hP1 hD1 hS1)
theorem gi_put (hX : gi_K V X cc own nL fr lo mc ms) {C : String} {T : u_T} {N ci idx h0 : Nat} {fs : List Value} {rest : va_W} {v : Value} {ty : FieldType} (f n : Nat) (fs' : List Value) (hc : V.2.1[ci]? = some (C, T, N)) (hin : ∀ w ∈ u_ws C T N, w ∈ gx_T) (ty0 : Nat → FieldType) (hty : ∀ k, k < N → parseFieldDescriptor (T k).2.2.1 = some (ty0 k)) (hnm : ∀ a, a < N → ∀ b, b < N → a ≠ b → (T a).2.1 ≠ (T b).2.1) (hf : f < N) (hlink : Cond.fieldLink own idx (T f).1 (T f).2.1 (T f).2.2.1 ∈ gx_T) (hfin : (T f).2.2.2 = false) (hdd : parseFieldDescriptor (T f).2.2.1 = some ty) (hnr : narrow ty v = v) (hfit : fits ty v = true) (hl : f < fs.length) (hfs : fs.set f v = fs') (hd : decode cc pc = .ok (.putfield idx, 3)) (hn : pc + 3 = n)
    (k : gi_G V X Post mc ms ((h0, .inr (ci, fs')) :: rest) cn sn n lv st) : gi_G V X Post mc ms ((h0, .inr (ci, fs)) :: rest) cn sn pc lv (v :: .ref h0 :: st) := by
  subst hn
  subst hfs
  obtain ⟨⟨p, l, e, R, s, m, args, below, meth, c⟩, A, σ0, vd⟩ := X
  obtain ⟨hx, hb, hml, hown, hts, hr, hlocks, hK, hA, hf', hl', hRc, hRs, hin2, hZ⟩ := hX
  intro H locs ls hls hP hD hS
  exact va_put (ci := ci) hx hb hts hin ty0 hty hnm hown hK hP hD hS 0 rfl hc f hf (hts _ hlink) (fun _ h => h) hfin hdd hnr hfit hl hd (fun H1 locs1 hP1 hD1 hS1 => k H1 locs1 ls hls hP1 hD1 hS1)
theorem gi_ret (hX : gi_K V X cc own nL fr lo mc ms) (hp : Post ws) (hcn : cn ≤ mc) (hsn : sn ≤ ms) (hd : decode cc pc = .ok (.return_, 1)) : gi_G V X Post mc ms ws cn sn pc lv [] := by
  obtain ⟨⟨p, l, e, R, s, m, args, below, meth, c⟩, A, σ0, vd⟩ := X
  obtain ⟨hx, hb, hml, hown, hts, hr, hlocks, hK, hA, hf', hl', hRc, hRs, hin2, hZ⟩ := hX
  intro H locs ls hls hP hD hS
  refine W.widen (k := mc) (n := ms) hcn hsn ?_
  exact W.vret hx hb hr (fun t ht hW => ⟨rfl, ⟨ws, hp, by rw [ht]; exact hP, hD⟩, hS.F ht⟩) hS.2.2 hd hlocks
/-- invokespecial of a constructor with a contract, on the last cell of the list -/
theorem gi_call (hX : gi_K V X cc own nL fr lo mc ms) {y : MethodName} {ccy : ByteArray} {mL fry loy mcy msy ci idx q : Nat} {fs : List Value} {wr : va_W} {PostY : Nat → va_W → Prop} {stk : List Value} (As : List Value) (n : Nat)
    (hM : gi_C X.1.2.1 V y ccy mL fry loy mcy msy ci fs As PostY)
    (hy : (y.cls ≠ "java/lang/invoke/MethodHandle" ∧ y.cls ≠ "java/lang/invoke/VarHandle") ∧ (parseMethodDescriptor y.desc).map (fun d => d.parameters.length) = some As.length) (hy1 : y.name = "<init>")
    (hcode : Cond.code y ccy mL none ∈ gx_T) (hlink : Cond.methodLink own idx y ∈ gx_T) (hinst : Cond.instanceMethod y ∈ gx_T) (hini : Cond.initialized y.cls ∈ gx_T)
    (hroom : fry + 1 ≤ fr ∧ 8 + (mL + 11) + loy ≤ lo) (hcn : cn + mcy ≤ mc) (hsn : sn + msy ≤ ms) (hst : (st.map fun v => v.category).sum ≤ 8) (hd : decode cc pc = .ok (.invokespecial idx, 3)) (hn : pc + 3 = n) (hstk : stk = As.reverse ++ .ref q :: st)
    (kk : ∀ w1, PostY q w1 → gi_G V X Post mc ms (wr ++ w1) (cn + mcy) (sn + msy) n lv st) : gi_G V X Post mc ms (wr ++ [(q, .inr (ci, fs))]) cn sn pc lv stk := by
  subst hn
  subst hstk
  obtain ⟨⟨p, l, e, R, s, m, args, below, meth, c⟩, A, σ0, vd⟩ := X
  obtain ⟨hx, hb, hml, hown, hts, hr, hlocks, hK, hA, hf', hl', hRc, hRs, hin2, hZ⟩ := hX
  intro H locs ls hls hP hD hS
  have hMet := hM q H.size
  have hPc : va_P V.1 V.2.1 [(q, .inr (ci, fs))] H := fun k x hk => hP (wr.length + k) x (by rw [List.getElem?_append_right (by omega), show wr.length + k - wr.length = k by omega]; exact hk)
  have hDc : va_D (fun _ => True) [(q, (.inr (ci, fs) : va_E))] := ⟨fun i j a b h1 h2 _ => by
    have g1 := (List.getElem?_eq_some_iff.mp h1).1
    have g2 := (List.getElem?_eq_some_iff.mp h2).1
    simp only [List.length_cons, List.length_nil] at g1 g2
    omega, fun _ _ _ => trivial⟩
  have hsub : ∀ z, va_A [(q, (.inr (ci, fs) : va_E))] H.size z → A z := fun z h => h.elim (fun ⟨k', e', hk'⟩ => hD.2 (wr.length + k') (z, e') (by rw [List.getElem?_append_right (by omega), show wr.length + k' - wr.length = k' by omega]; exact hk')) (fun h => hA z (Nat.le_trans hS.1 h))
  intro T hT X0
  have hBk : Back l R p e below s args y 3 8 (PreOf R mcy msy _) _ := gx_back hMet ?_ rfl rfl (by show fry + 1 ≤ R.frames; omega) (by show 8 + (mL + 11) + loy ≤ R.locals; omega) (gx_wsok hts hcode) List.mem_cons_self (fun a' U hW => word_at hW (gx_good _ hini) (hts _ hini))
  · obtain ⟨v, vm₁, ⟨U', l2, c2, s2⟩, hW₁, X', ⟨g', mk, t, L, e1, e2, hq, h1', hL, h2', h3'⟩, stp⟩ := callI X0 hx (bytes := ccy) (maxL := mL) hown hy1 (hts _ hlink) (hts _ hinst) (hts _ hcode) hy.1 hBk (g := F0 m pc ls (As.reverse ++ .ref q :: st)) rfl hls.1 (a := q) (argsL := As) (rest := st) (fun sig h => by have h3 := hy.2; rw [h] at h3; exact (Option.some.inj h3).symm) rfl (lv_room (m := m) (pc := pc) (ls := ls) (rest := As.reverse ++ .ref q :: st) hst) (by rw [hb]; exact hd)
      (fun vm₁ hW₁ => ⟨by show cn + mcy ≤ R.cells; omega, by show sn + msy ≤ R.slots; omega, rfl, by show T.heap.size = H.size; rw [hT], by show va_P _ _ _ T.heap; rw [hT]; exact hPc, va_K.moved hW₁.alike hK, hDc, fun w hw => gi_Zwarm hW₁ w hw (hZ w hw)⟩)
    dsimp only [Pt.U, Pt.locs, Pt.cells, Pt.slots] at X' e1 e2 h1' h2' h3' stp
    subst h1'; subst h2'; subst h3'
    obtain ⟨hv, ⟨w1, hw1, hP1, hD1⟩, hF⟩ := hq
    have hv : v = none := Outcome.returned.inj hv
    have hF : va_F (va_A [(q, .inr (ci, fs))] H.size) _ t := hF
    have hz : H.size ≤ t.heap.size := by have := hF.1; rw [show ((T.setVm vm₁).calling g' mk (Value.ref q :: As).toArray).heap = H from hT] at this; exact this
    have hkeep : ∀ z : Nat, z < H.size → ¬ va_A [(q, (.inr (ci, fs) : va_E))] H.size z → t.heap[z]? = H[z]? := fun z a1 a2 => by
      have := hF.2 z (by rw [show ((T.setVm vm₁).calling g' mk (Value.ref q :: As).toArray).heap = H from hT]; exact a1) a2
      rw [show ((T.setVm vm₁).calling g' mk (Value.ref q :: As).toArray).heap = H from hT] at this; exact this
    obtain ⟨hP2, hD2⟩ := gi_join hP hD hkeep hsub hP1 hD1
    have hS' : va_S A s.heap t.heap (locs ++ L) := by
      refine ⟨Nat.le_trans hS.1 hz, fun z a1 a2 => ?_, fun z hq => ?_⟩
      · rw [hkeep z (Nat.lt_of_lt_of_le a1 hS.1) (fun h => a2 (hsub z h))]; exact hS.2.1 z a1 a2
      · rcases List.mem_append.mp hq with h | h
        · exact hS.2.2 z h
        · exact hsub _ (hL z h)
    obtain ⟨t2, a1, b1⟩ := kk w1 hw1 t.heap (locs ++ L) ls hls hP2 hD2 hS' U' e1 X'
    subst hv
    exact ⟨t2, stp t2 a1, b1⟩
  · intro a U g mk z
    obtain ⟨z0, z1, qP, qK, qD, qZ⟩ := z
    exact ⟨z0, z1, qP, va_K.moved (u := U) (U := U.calling g mk a) (Vm.Alike.refl U.vm) qK, qD, fun w hw => va_Nw.same (gi_Ztab w hw) (rfl : U.vm = (U.calling g mk a).vm) (qZ w hw)⟩
/-- invokespecial of a constructor of a nest mate with a contract, on the last cell of the list -/
theorem gi_callN (hX : gi_K V X cc own nL fr lo mc ms) {y : MethodName} {ccy : ByteArray} {mL fry loy mcy msy ci idx q : Nat} {fs : List Value} {wr : va_W} {PostY : Nat → va_W → Prop} {stk : List Value} (As : List Value) (n : Nat)
    (hM : gi_C X.1.2.1 V y ccy mL fry loy mcy msy ci fs As PostY)
    (hy : (y.cls ≠ "java/lang/invoke/MethodHandle" ∧ y.cls ≠ "java/lang/invoke/VarHandle") ∧ (parseMethodDescriptor y.desc).map (fun d => d.parameters.length) = some As.length) (hy1 : y.name = "<init>")
    (hcode : Cond.code y ccy mL none ∈ gx_T) {host : String} (hlink : Cond.methodLinkNest own idx y host ∈ gi_Z) (hinst : Cond.instanceMethod y ∈ gx_T) (hini : Cond.initialized y.cls ∈ gx_T)
    (hroom : fry + 1 ≤ fr ∧ 8 + (mL + 11) + loy ≤ lo) (hcn : cn + mcy ≤ mc) (hsn : sn + msy ≤ ms) (hst : (st.map fun v => v.category).sum ≤ 8) (hd : decode cc pc = .ok (.invokespecial idx, 3)) (hn : pc + 3 = n) (hstk : stk = As.reverse ++ .ref q :: st)
    (kk : ∀ w1, PostY q w1 → gi_G V X Post mc ms (wr ++ w1) (cn + mcy) (sn + msy) n lv st) : gi_G V X Post mc ms (wr ++ [(q, .inr (ci, fs))]) cn sn pc lv stk := by
  subst hn
  subst hstk
  obtain ⟨⟨p, l, e, R, s, m, args, below, meth, c⟩, A, σ0, vd⟩ := X
  obtain ⟨hx, hb, hml, hown, hts, hr, hlocks, hK, hA, hf', hl', hRc, hRs, hin2, hZ⟩ := hX
  intro H locs ls hls hP hD hS
  have hMet := hM q H.size
  have hPc : va_P V.1 V.2.1 [(q, .inr (ci, fs))] H := fun k x hk => hP (wr.length + k) x (by rw [List.getElem?_append_right (by omega), show wr.length + k - wr.length = k by omega]; exact hk)
  have hDc : va_D (fun _ => True) [(q, (.inr (ci, fs) : va_E))] := ⟨fun i j a b h1 h2 _ => by
    have g1 := (List.getElem?_eq_some_iff.mp h1).1
    have g2 := (List.getElem?_eq_some_iff.mp h2).1
    simp only [List.length_cons, List.length_nil] at g1 g2
    omega, fun _ _ _ => trivial⟩
  have hsub : ∀ z, va_A [(q, (.inr (ci, fs) : va_E))] H.size z → A z := fun z h => h.elim (fun ⟨k', e', hk'⟩ => hD.2 (wr.length + k') (z, e') (by rw [List.getElem?_append_right (by omega), show wr.length + k' - wr.length = k' by omega]; exact hk')) (fun h => hA z (Nat.le_trans hS.1 h))
  intro T hT X0
  have hBk : Back l R p e below s args y 3 8 (PreOf R mcy msy _) _ := gx_back hMet ?_ rfl rfl (by show fry + 1 ≤ R.frames; omega) (by show 8 + (mL + 11) + loy ≤ R.locals; omega) (gx_wsok hts hcode) List.mem_cons_self (fun a' U hW => word_at hW (gx_good _ hini) (hts _ hini))
  · obtain ⟨v, vm₁, ⟨U', l2, c2, s2⟩, hW₁, X', ⟨g', mk, t, L, e1, e2, hq, h1', hL, h2', h3'⟩, stp⟩ := va_callIN X0 hx (bytes := ccy) (maxL := mL) hown hy1 (va_Nw.use rfl (hZ _ hlink)) (hts _ hinst) (hts _ hcode) hy.1 hBk (g := F0 m pc ls (As.reverse ++ .ref q :: st)) rfl hls.1 (a := q) (argsL := As) (rest := st) (fun sig h => by have h3 := hy.2; rw [h] at h3; exact (Option.some.inj h3).symm) rfl (lv_room (m := m) (pc := pc) (ls := ls) (rest := As.reverse ++ .ref q :: st) hst) (by rw [hb]; exact hd)
      (fun vm₁ hW₁ => ⟨by show cn + mcy ≤ R.cells; omega, by show sn + msy ≤ R.slots; omega, rfl, by show T.heap.size = H.size; rw [hT], by show va_P _ _ _ T.heap; rw [hT]; exact hPc, va_K.moved hW₁.alike hK, hDc, fun w hw => gi_Zwarm hW₁ w hw (hZ w hw)⟩)
    dsimp only [Pt.U, Pt.locs, Pt.cells, Pt.slots] at X' e1 e2 h1' h2' h3' stp
    subst h1'; subst h2'; subst h3'
    obtain ⟨hv, ⟨w1, hw1, hP1, hD1⟩, hF⟩ := hq
    have hv : v = none := Outcome.returned.inj hv
    have hF : va_F (va_A [(q, .inr (ci, fs))] H.size) _ t := hF
    have hz : H.size ≤ t.heap.size := by have := hF.1; rw [show ((T.setVm vm₁).calling g' mk (Value.ref q :: As).toArray).heap = H from hT] at this; exact this
    have hkeep : ∀ z : Nat, z < H.size → ¬ va_A [(q, (.inr (ci, fs) : va_E))] H.size z → t.heap[z]? = H[z]? := fun z a1 a2 => by
      have := hF.2 z (by rw [show ((T.setVm vm₁).calling g' mk (Value.ref q :: As).toArray).heap = H from hT]; exact a1) a2
      rw [show ((T.setVm vm₁).calling g' mk (Value.ref q :: As).toArray).heap = H from hT] at this; exact this
    obtain ⟨hP2, hD2⟩ := gi_join hP hD hkeep hsub hP1 hD1
    have hS' : va_S A s.heap t.heap (locs ++ L) := by
      refine ⟨Nat.le_trans hS.1 hz, fun z a1 a2 => ?_, fun z hq => ?_⟩
      · rw [hkeep z (Nat.lt_of_lt_of_le a1 hS.1) (fun h => a2 (hsub z h))]; exact hS.2.1 z a1 a2
      · rcases List.mem_append.mp hq with h | h
        · exact hS.2.2 z h
        · exact hsub _ (hL z h)
    obtain ⟨t2, a1, b1⟩ := kk w1 hw1 t.heap (locs ++ L) ls hls hP2 hD2 hS' U' e1 X'
    subst hv
    exact ⟨t2, stp t2 a1, b1⟩
  · intro a U g mk z
    obtain ⟨z0, z1, qP, qK, qD, qZ⟩ := z
    exact ⟨z0, z1, qP, va_K.moved (u := U) (U := U.calling g mk a) (Vm.Alike.refl U.vm) qK, qD, fun w hw => va_Nw.same (gi_Ztab w hw) (rfl : U.vm = (U.calling g mk a).vm) (qZ w hw)⟩
theorem gi_get (hX : gi_K V X cc own nL fr lo mc ms) {C : String} {T : u_T} {N ci idx h0 : Nat} {fs : List Value} {v : Value} (f n : Nat) (he : ws[0]? = some (h0, .inr (ci, fs))) (hc : V.2.1[ci]? = some (C, T, N)) (hin : ∀ w ∈ u_ws C T N, w ∈ gx_T) (hf : f < N) (hlink : Cond.fieldLink own idx (T f).1 (T f).2.1 (T f).2.2.1 ∈ gx_T) (hv : fs[f]? = some v) (hd : decode cc pc = .ok (.getfield idx, 3)) (hn : pc + 3 = n)
    (k : gi_G V X Post mc ms ws cn sn n lv (v :: st)) : gi_G V X Post mc ms ws cn sn pc lv (.ref h0 :: st) := by
  subst hn
  obtain ⟨⟨p, l, e, R, s, m, args, below, meth, c⟩, A, σ0, vd⟩ := X
  obtain ⟨hx, hb, hml, hown, hts, hr, hlocks, hK, hA, hf', hl', hRc, hRs, hin2, hZ⟩ := hX
  intro H locs ls hls hP hD hS
  exact va_get (ci := ci) hx hb hts hin hown hK hP 0 he hc f hf (hts _ hlink) (fun _ h => h) hv hd (k H locs ls hls hP hD hS)
end GI
