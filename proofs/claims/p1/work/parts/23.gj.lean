/-! THE LAW'S WALK: gj_G: over a list of cells, to an end Qq of the law's own -/
def gj_K (V : gi_V) (X : gx_X) (cc : ByteArray) (own : String) (nL fr lo mc ms : Nat) : Prop := match X with
  | ((p, _, _, R, s, m, args, _, meth, c), A, _, _) =>
    p.tables.exec = Jvm.exec ∧ c.code = cc ∧ c.maxLocals = nL ∧ s.vm.findClass own = some m.cls ∧ (∀ w ∈ gx_T, w.before args s = true) ∧ True ∧ meth.locks = false ∧ va_K V.1 V.2.1 V.2.2 s ∧ (∀ q : Nat, s.heap.size ≤ q → A q) ∧ fr ≤ R.frames ∧ lo ≤ R.locals ∧ mc ≤ R.cells ∧ ms ≤ R.slots ∧ True ∧ ∀ w ∈ gi_Z, va_Nw w s
def gj_G (V : gi_V) (X : gx_X) (Qq : State → Prop) (ws : va_W) (cn sn : Nat) (pc : Nat) (lv : List (Nat × Value)) (st : List Value) : Prop := match X with
  | ((p, l, e, R, s, m, args, below, meth, c), A, _, _) =>
    ∀ (H : Heap) (locs : List Loc) (ls : Array Slot), lv_has ls c.maxLocals lv → va_P V.1 V.2.1 ws H → va_D A ws → va_S A s.heap H locs → W p l e R s m args below meth c H locs cn sn Qq (F0 m pc ls st)
section GJ
variable {V : gi_V} {X : gx_X} {cc : ByteArray} {own : String} {nL fr lo mc ms : Nat} {Qq : State → Prop} {ws : va_W} {cn sn pc : Nat} {lv : List (Nat × Value)} {st : List Value}
theorem gj_lv (hX : gj_K V X cc own nL fr lo mc ms) {pc' : Nat} {lv' : List (Nat × Value)} {st' : List Value}
    (h : ∀ {p : Program} {l : Launch} {e : Env} {R : Room} {s : State} {m : MethodId} {args : Array Value} {below : List Frame} {meth : Method} {c : Code} {H : Heap} {locs : List Loc} {cells slots : Nat} {Q : State → Prop} {ls : Array Slot}, p.tables.exec = Jvm.exec → c.code = cc → lv_has ls nL lv → (∀ ls', lv_has ls' nL lv' → W p l e R s m args below meth c H locs cells slots Q (F0 m pc' ls' st')) → W p l e R s m args below meth c H locs cells slots Q (F0 m pc ls st))
    (k : gj_G V X Qq ws cn sn pc' lv' st') : gj_G V X Qq ws cn sn pc lv st := by
  obtain ⟨⟨p, l, e, R, s, m, args, below, meth, c⟩, A, σ0, vd⟩ := X
  obtain ⟨hx, hb, hml, -⟩ := hX
  intro H locs ls hls hP hD hS
  exact h hx hb (by rw [← hml]; exact hls) (fun ls' hls' => k H locs ls' (by rw [hml]; exact hls') hP hD hS)
theorem gj_aload_n (hX : gj_K V X cc own nL fr lo mc ms) {z : Fin 4} {i x : Nat} (q n : Nat) (hd : decode cc pc = .ok (.aload_n z, 1)) (hi : (z : Nat) = i) (hq : lv[q]? = some (i, .ref x)) (hn : pc + 1 = n) (k : gj_G V X Qq ws cn sn n lv (.ref x :: st)) : gj_G V X Qq ws cn sn pc lv st := by
  subst hn
  exact gj_lv hX (fun hx hb hl kk => lv_aload_n hx hb hd hi (lv_at hl q hq) (kk _ hl)) k
theorem gj_iload_n (hX : gj_K V X cc own nL fr lo mc ms) {z : Fin 4} {i : Nat} {x : Int32} (q n : Nat) (hd : decode cc pc = .ok (.iload_n z, 1)) (hi : (z : Nat) = i) (hq : lv[q]? = some (i, .int x)) (hn : pc + 1 = n) (k : gj_G V X Qq ws cn sn n lv (.int x :: st)) : gj_G V X Qq ws cn sn pc lv st := by
  subst hn
  exact gj_lv hX (fun hx hb hl kk => lv_iload_n hx hb hd hi (lv_at hl q hq) (kk _ hl)) k
theorem gj_iconst (hX : gj_K V X cc own nL fr lo mc ms) {z : Int} (v : Int32) (n : Nat) (hd : decode cc pc = .ok (.iconst z, 1)) (hv : Int32.ofInt z = v) (hn : pc + 1 = n) (k : gj_G V X Qq ws cn sn n lv (.int v :: st)) : gj_G V X Qq ws cn sn pc lv st := by
  subst hn
  exact gj_lv hX (fun hx hb hl kk => lv_iconst hx hb hd hv (kk _ hl)) k
theorem gj_bipush (hX : gj_K V X cc own nL fr lo mc ms) {z : Int} (v : Int32) (n : Nat) (hd : decode cc pc = .ok (.bipush z, 2)) (hv : (Int8.ofInt z).toInt32 = v) (hn : pc + 2 = n) (k : gj_G V X Qq ws cn sn n lv (.int v :: st)) : gj_G V X Qq ws cn sn pc lv st := by
  subst hn
  exact gj_lv hX (fun hx hb hl kk => lv_bipush hx hb hd hv (kk _ hl)) k
theorem gj_dup (hX : gj_K V X cc own nL fr lo mc ms) {a : Value} (n : Nat) (hd : decode cc pc = .ok (.dup, 1)) (ha : a.category = 1) (hn : pc + 1 = n) (k : gj_G V X Qq ws cn sn n lv (a :: a :: st)) : gj_G V X Qq ws cn sn pc lv (a :: st) := by
  subst hn
  exact gj_lv hX (fun hx hb hl kk => lv_dup hx hb hd ha (kk _ hl)) k
theorem gj_new (hX : gj_K V X cc own nL fr lo mc ms) {C : String} {T : u_T} {N ci idx : Nat} (ty : Nat → FieldType) (fs : List Value) (n : Nat) (hc : V.2.1[ci]? = some (C, T, N)) (hin : ∀ w ∈ u_ws C T N, w ∈ gx_T) (hty : ∀ k, k < N → parseFieldDescriptor (T k).2.2.1 = some (ty k)) (hfs : ∀ j, j < N → defaultValue (ty j) = vp_V fs j) (hcl : Cond.classLink own idx C ∈ gx_T) (hinst : Cond.instantiable C N ∈ gx_T) (hini : Cond.initialized C ∈ gx_T) (hcn : cn + 1 ≤ mc) (hsn : sn + N ≤ ms) (hd : decode cc pc = .ok (.new idx, 3)) (hn : pc + 3 = n)
    (k : ∀ q, gj_G V X Qq (ws ++ [(q, .inr (ci, fs))]) (cn + 1) (sn + N) n lv (.ref q :: st)) : gj_G V X Qq ws cn sn pc lv st := by
  subst hn
  obtain ⟨⟨p, l, e, R, s, m, args, below, meth, c⟩, A, σ0, vd⟩ := X
  obtain ⟨hx, hb, hml, hown, hts, hr, hlocks, hK, hA, hf, hl', hRc, hRs, hnm, hZ⟩ := hX
  intro H locs ls hls hP hD hS
  exact va_new (ci := ci) (fs := fs) hx hb hts hin ty hty hown (hts _ hcl) (hts _ hinst) (hts _ hini) hK hP hD hS hA hc hfs (Nat.le_trans hcn hRc) (Nat.le_trans hsn hRs) hd (fun q H1 hP1 hD1 hS1 => k q H1 locs ls hls hP1 hD1 hS1)
theorem gj_call (hX : gj_K V X cc own nL fr lo mc ms) {y : MethodName} {ccy : ByteArray} {mL fry loy mcy msy ci idx q : Nat} {fs : List Value} {wr : va_W} {PostY : Nat → va_W → Prop} {stk : List Value} (As : List Value) (n : Nat)
    (hM : gi_C X.1.2.1 V y ccy mL fry loy mcy msy ci fs As PostY)
    (hy : (y.cls ≠ "java/lang/invoke/MethodHandle" ∧ y.cls ≠ "java/lang/invoke/VarHandle") ∧ (parseMethodDescriptor y.desc).map (fun d => d.parameters.length) = some As.length) (hy1 : y.name = "<init>")
    (hcode : Cond.code y ccy mL none ∈ gx_T) (hlink : Cond.methodLink own idx y ∈ gx_T) (hinst : Cond.instanceMethod y ∈ gx_T) (hini : Cond.initialized y.cls ∈ gx_T)
    (hroom : fry + 1 ≤ fr ∧ 8 + (mL + 11) + loy ≤ lo) (hcn : cn + mcy ≤ mc) (hsn : sn + msy ≤ ms) (hst : (st.map fun v => v.category).sum ≤ 8) (hd : decode cc pc = .ok (.invokespecial idx, 3)) (hn : pc + 3 = n) (hstk : stk = As.reverse ++ .ref q :: st)
    (kk : ∀ w1, PostY q w1 → gj_G V X Qq (wr ++ w1) (cn + mcy) (sn + msy) n lv st) : gj_G V X Qq (wr ++ [(q, .inr (ci, fs))]) cn sn pc lv stk := by
  subst hn
  subst hstk
  obtain ⟨⟨p, l, e, R, s, m, args, below, meth, c⟩, A, σ0, vd⟩ := X
  obtain ⟨hx, hb, hml, hown, hts, hr, hlocks, hK, hA, hf', hl', hRc, hRs, hin2, hZ⟩ := hX
  intro H locs ls hls hP hD hS
  have hMet := hM q H.size
  have hPc : va_P V.1 V.2.1 [(q, .inr (ci, fs))] H := fun k x hk => hP (wr.length + k) x (by rw [List.getElem?_append_right (by omega), show wr.length + k - wr.length = k by omega]; exact hk)
  have hDc : va_D (fun _ => True) [(q, (.inr (ci, fs) : va_E))] := ⟨fun i j a b h1 h2 _ => by
    have g1 := (List.getElem?_eq_some_iff.mp h1).1
    have g2 := (List.getElem?_eq_some_iff.mp h2).1
    simp only [List.length_cons, List.length_nil] at g1 g2
    omega, fun _ _ _ => trivial⟩
  have hsub : ∀ z, va_A [(q, (.inr (ci, fs) : va_E))] H.size z → A z := fun z h => h.elim (fun ⟨k', e', hk'⟩ => hD.2 (wr.length + k') (z, e') (by rw [List.getElem?_append_right (by omega), show wr.length + k' - wr.length = k' by omega]; exact hk')) (fun h => hA z (Nat.le_trans hS.1 h))
  intro T hT X0
  have hBk : Back l R p e below s args y 3 8 (PreOf R mcy msy _) _ := gx_back hMet ?_ rfl rfl (by show fry + 1 ≤ R.frames; omega) (by show 8 + (mL + 11) + loy ≤ R.locals; omega) (gx_wsok hts hcode) List.mem_cons_self (fun a' U hW => word_at hW (gx_good _ hini) (hts _ hini))
  · obtain ⟨v, vm₁, ⟨U', l2, c2, s2⟩, hW₁, X', ⟨g', mk, t, L, e1, e2, hq, h1', hL, h2', h3'⟩, stp⟩ := callI X0 hx (bytes := ccy) (maxL := mL) hown hy1 (hts _ hlink) (hts _ hinst) (hts _ hcode) hy.1 hBk (g := F0 m pc ls (As.reverse ++ .ref q :: st)) rfl hls.1 (a := q) (argsL := As) (rest := st) (fun sig h => by have h3 := hy.2; rw [h] at h3; exact (Option.some.inj h3).symm) rfl (lv_room (m := m) (pc := pc) (ls := ls) (rest := As.reverse ++ .ref q :: st) hst) (by rw [hb]; exact hd)
      (fun vm₁ hW₁ => ⟨by show cn + mcy ≤ R.cells; omega, by show sn + msy ≤ R.slots; omega, rfl, by show T.heap.size = H.size; rw [hT], by show va_P _ _ _ T.heap; rw [hT]; exact hPc, va_K.moved hW₁.alike hK, hDc, fun w hw => gi_Zwarm hW₁ w hw (hZ w hw)⟩)
    dsimp only [Pt.U, Pt.locs, Pt.cells, Pt.slots] at X' e1 e2 h1' h2' h3' stp
    subst h1'; subst h2'; subst h3'
    obtain ⟨hv, ⟨w1, hw1, hP1, hD1⟩, hF⟩ := hq
    have hv : v = none := Outcome.returned.inj hv
    have hF : va_F (va_A [(q, .inr (ci, fs))] H.size) _ t := hF
    have hz : H.size ≤ t.heap.size := by have := hF.1; rw [show ((T.setVm vm₁).calling g' mk (Value.ref q :: As).toArray).heap = H from hT] at this; exact this
    have hkeep : ∀ z : Nat, z < H.size → ¬ va_A [(q, (.inr (ci, fs) : va_E))] H.size z → t.heap[z]? = H[z]? := fun z a1 a2 => by
      have := hF.2 z (by rw [show ((T.setVm vm₁).calling g' mk (Value.ref q :: As).toArray).heap = H from hT]; exact a1) a2
      rw [show ((T.setVm vm₁).calling g' mk (Value.ref q :: As).toArray).heap = H from hT] at this; exact this
    obtain ⟨hP2, hD2⟩ := gi_join hP hD hkeep hsub hP1 hD1
    have hS' : va_S A s.heap t.heap (locs ++ L) := by
      refine ⟨Nat.le_trans hS.1 hz, fun z a1 a2 => ?_, fun z hq => ?_⟩
      · rw [hkeep z (Nat.lt_of_lt_of_le a1 hS.1) (fun h => a2 (hsub z h))]; exact hS.2.1 z a1 a2
      · rcases List.mem_append.mp hq with h | h
        · exact hS.2.2 z h
        · exact hsub _ (hL z h)
    obtain ⟨t2, a1, b1⟩ := kk w1 hw1 t.heap (locs ++ L) ls hls hP2 hD2 hS' U' e1 X'
    subst hv
    exact ⟨t2, stp t2 a1, b1⟩
  · intro a U g mk z
    obtain ⟨z0, z1, qP, qK, qD, qZ⟩ := z
    exact ⟨z0, z1, qP, va_K.moved (u := U) (U := U.calling g mk a) (Vm.Alike.refl U.vm) qK, qD, fun w hw => va_Nw.same (gi_Ztab w hw) (rfl : U.vm = (U.calling g mk a).vm) (qZ w hw)⟩
theorem gj_istore_n (hX : gj_K V X cc own nL fr lo mc ms) {z : Fin 4} {i : Nat} {x : Int32} (lv' : List (Nat × Value)) (n : Nat) (hd : decode cc pc = .ok (.istore_n z, 1)) (hi : (z : Nat) = i) (hi2 : i < nL) (hl' : (i, Value.int x) :: lv.filter (fun q => !(q.1 == i) && !(q.1 + 1 == i && q.2.category == 2)) = lv') (hn : pc + 1 = n) (k : gj_G V X Qq ws cn sn n lv' st) : gj_G V X Qq ws cn sn pc lv (.int x :: st) := by
  subst hn
  exact gj_lv hX (fun hx hb hl kk => lv_istore_n hx hb hd hi hl hi2 hl' (fun ls' h' => kk ls' h')) k
theorem gj_iinc (hX : gj_K V X cc own nL fr lo mc ms) {i q : Nat} {z : Int} {x : Int32} (v : Int32) (lv' : List (Nat × Value)) (n : Nat) (hd : decode cc pc = .ok (.iinc i z, 3)) (hq : lv[q]? = some (i, .int x)) (hv : x + Int32.ofInt z = v) (hi2 : i < nL) (hl' : (i, Value.int v) :: lv.filter (fun q => !(q.1 == i) && !(q.1 + 1 == i && q.2.category == 2)) = lv') (hn : pc + 3 = n) (k : gj_G V X Qq ws cn sn n lv' st) : gj_G V X Qq ws cn sn pc lv st := by
  subst hn
  exact gj_lv hX (fun hx hb hl kk => lv_iinc hx hb hd hl hq hv hi2 hl' (fun ls' h' => kk ls' h')) k
theorem gj_goto (hX : gj_K V X cc own nL fr lo mc ms) {off : Int} (tgt : Nat) (hd : decode cc pc = .ok (.goto off, 3)) (ht : (pc : Int) + off = (tgt : Int)) (k : gj_G V X Qq ws cn sn tgt lv st) : gj_G V X Qq ws cn sn pc lv st := gj_lv hX (fun hx hb hl kk => lv_goto hx hb hd ht (kk _ hl)) k
theorem gj_iand (hX : gj_K V X cc own nL fr lo mc ms) {x y : Int32} (n : Nat) (hd : decode cc pc = .ok (.iand, 1)) (hn : pc + 1 = n) (k : gj_G V X Qq ws cn sn n lv (.int (x &&& y) :: st)) : gj_G V X Qq ws cn sn pc lv (.int y :: .int x :: st) := by
  subst hn
  exact gj_lv hX (fun hx hb hl kk => lv_iand hx hb hd (kk _ hl)) k
theorem gj_iadd (hX : gj_K V X cc own nL fr lo mc ms) {x y : Int32} (v : Int32) (n : Nat) (hv : x + y = v) (hd : decode cc pc = .ok (.iadd, 1)) (hn : pc + 1 = n) (k : gj_G V X Qq ws cn sn n lv (.int v :: st)) : gj_G V X Qq ws cn sn pc lv (.int y :: .int x :: st) := by
  subst hn
  subst hv
  exact gj_lv hX (fun hx hb hl kk => lv_iadd hx hb hd (kk _ hl)) k
theorem gj_isub (hX : gj_K V X cc own nL fr lo mc ms) {x y : Int32} (n : Nat) (hd : decode cc pc = .ok (.isub, 1)) (hn : pc + 1 = n) (k : gj_G V X Qq ws cn sn n lv (.int (x - y) :: st)) : gj_G V X Qq ws cn sn pc lv (.int y :: .int x :: st) := by
  subst hn
  exact gj_lv hX (fun hx hb hl kk => lv_isub hx hb hd (kk _ hl)) k
theorem gj_i2l (hX : gj_K V X cc own nL fr lo mc ms) {x : Int32} (n : Nat) (hd : decode cc pc = .ok (.i2l, 1)) (hn : pc + 1 = n) (k : gj_G V X Qq ws cn sn n lv (.long x.toInt64 :: st)) : gj_G V X Qq ws cn sn pc lv (.int x :: st) := by
  subst hn
  exact gj_lv hX (fun hx hb hl kk => lv_i2l hx hb hd rfl (kk _ hl)) k
theorem gj_lshl (hX : gj_K V X cc own nL fr lo mc ms) {x : Int64} {y : Int32} (n : Nat) (hd : decode cc pc = .ok (.lshl, 1)) (hn : pc + 1 = n) (k : gj_G V X Qq ws cn sn n lv (.long (x <<< (y.toInt64 &&& 63)) :: st)) : gj_G V X Qq ws cn sn pc lv (.int y :: .long x :: st) := by
  subst hn
  exact gj_lv hX (fun hx hb hl kk => lv_lshl hx hb hd rfl (kk _ hl)) k
theorem gj_land (hX : gj_K V X cc own nL fr lo mc ms) {x y : Int64} (n : Nat) (hd : decode cc pc = .ok (.land, 1)) (hn : pc + 1 = n) (k : gj_G V X Qq ws cn sn n lv (.long (x &&& y) :: st)) : gj_G V X Qq ws cn sn pc lv (.long y :: .long x :: st) := by
  subst hn
  exact gj_lv hX (fun hx hb hl kk => lv_land hx hb hd (kk _ hl)) k
theorem gj_lor (hX : gj_K V X cc own nL fr lo mc ms) {x y : Int64} (n : Nat) (hd : decode cc pc = .ok (.lor, 1)) (hn : pc + 1 = n) (k : gj_G V X Qq ws cn sn n lv (.long (x ||| y) :: st)) : gj_G V X Qq ws cn sn pc lv (.long y :: .long x :: st) := by
  subst hn
  exact gj_lv hX (fun hx hb hl kk => lv_lor hx hb hd (kk _ hl)) k
theorem gj_astore_n (hX : gj_K V X cc own nL fr lo mc ms) {z : Fin 4} {i x : Nat} (lv' : List (Nat × Value)) (n : Nat) (hd : decode cc pc = .ok (.astore_n z, 1)) (hi : (z : Nat) = i) (hi2 : i < nL) (hl' : (i, Value.ref x) :: lv.filter (fun q => !(q.1 == i) && !(q.1 + 1 == i && q.2.category == 2)) = lv') (hn : pc + 1 = n) (k : gj_G V X Qq ws cn sn n lv' st) : gj_G V X Qq ws cn sn pc lv (.ref x :: st) := by
  subst hn
  exact gj_lv hX (fun hx hb hl kk => lv_astore_n hx hb hd hi hl hi2 hl' (fun ls' h' => kk ls' h')) k
theorem gj_ldc2 (hX : gj_K V X cc own nL fr lo mc ms) {idx : Nat} (v : Int64) (n : Nat) (hd : decode cc pc = .ok (.ldc2_w idx, 3)) (hw : Cond.constantLong own idx v ∈ gx_T) (hn : pc + 3 = n) (k : gj_G V X Qq ws cn sn n lv (.long v :: st)) : gj_G V X Qq ws cn sn pc lv st := by
  subst hn
  obtain ⟨⟨p, l, e, R, s, m, args, below, meth, c⟩, A, σ0, vd⟩ := X
  obtain ⟨hx, hb, hml, hown, hts, -⟩ := hX
  intro H locs ls hls hP hD hS
  exact lv_ldc2 hx hb hown (hts _ hw) hd (k H locs ls hls hP hD hS)
/-- the script -/
theorem gj_sld (hX : gj_K V X cc own nL fr lo mc ms) {b L : Nat} {xs : Nat → Int32} {i : Int32} (j n : Nat) (hB : va_X b L xs X.1.2.2.2.2.1 X.1.2.2.2.2.1.heap ∧ b < X.1.2.2.2.2.1.heap.size ∧ ¬ X.2.1 b) (hi : i = nI j) (hj : j < L) (hL : L < 2 ^ 31) (hd : decode cc pc = .ok (.iaload, 1)) (hn : pc + 1 = n) (k : gj_G V X Qq ws cn sn n lv (.int (xs j) :: st)) : gj_G V X Qq ws cn sn pc lv (.int i :: .ref b :: st) := by
  subst hn
  subst hi
  obtain ⟨⟨p, l, e, R, s, m, args, below, meth, c⟩, A, σ0, vd⟩ := X
  obtain ⟨hx, hb, -⟩ := hX
  obtain ⟨h1, h2, h3⟩ := hB
  intro H locs ls hls hP hD hS
  refine va_sld hx hb h1 h2 h3 hS (vp_in_nI hj hL) hd ?_
  rw [nI_clamp (by omega)]
  exact k H locs ls hls hP hD hS
theorem gj_slen (hX : gj_K V X cc own nL fr lo mc ms) {b L : Nat} {xs : Nat → Int32} (n : Nat) (hB : va_X b L xs X.1.2.2.2.2.1 X.1.2.2.2.2.1.heap ∧ b < X.1.2.2.2.2.1.heap.size ∧ ¬ X.2.1 b) (hd : decode cc pc = .ok (.arraylength, 1)) (hn : pc + 1 = n) (k : gj_G V X Qq ws cn sn n lv (.int (nI L) :: st)) : gj_G V X Qq ws cn sn pc lv (.ref b :: st) := by
  subst hn
  obtain ⟨⟨p, l, e, R, s, m, args, below, meth, c⟩, A, σ0, vd⟩ := X
  obtain ⟨hx, hb, -⟩ := hX
  obtain ⟨h1, h2, h3⟩ := hB
  intro H locs ls hls hP hD hS
  exact va_slen hx hb h1 h2 h3 hS hd (k H locs ls hls hP hD hS)
theorem gj_br (hX : gj_K V X cc own nL fr lo mc ms) {P : Prop} {p1 p2 : Nat} {st' : List Value}
    (h : ∀ {p : Program} {l : Launch} {e : Env} {R : Room} {s : State} {m : MethodId} {args : Array Value} {below : List Frame} {meth : Method} {c : Code} {H : Heap} {locs : List Loc} {cells slots : Nat} {Q : State → Prop} {ls : Array Slot}, p.tables.exec = Jvm.exec → c.code = cc → (P → W p l e R s m args below meth c H locs cells slots Q (F0 m p1 ls st')) → (¬ P → W p l e R s m args below meth c H locs cells slots Q (F0 m p2 ls st')) → W p l e R s m args below meth c H locs cells slots Q (F0 m pc ls st))
    (k1 : P → gj_G V X Qq ws cn sn p1 lv st') (k2 : ¬ P → gj_G V X Qq ws cn sn p2 lv st') : gj_G V X Qq ws cn sn pc lv st := by
  obtain ⟨⟨p, l, e, R, s, m, args, below, meth, c⟩, A, σ0, vd⟩ := X
  obtain ⟨hx, hb, hml, -⟩ := hX
  intro H locs ls hls hP hD hS
  exact h hx hb (fun hp => k1 hp H locs ls hls hP hD hS) (fun hp => k2 hp H locs ls hls hP hD hS)
theorem gj_ws {ws' : va_W} (hP' : ∀ (D : va_G) (cl : List vw_C) (H : Heap), va_P D cl ws H → va_P D cl ws' H) (hD' : ∀ A : Nat → Prop, va_D A ws → va_D A ws') (k : gj_G V X Qq ws' cn sn pc lv st) : gj_G V X Qq ws cn sn pc lv st := by
  obtain ⟨⟨p, l, e, R, s, m, args, below, meth, c⟩, A, σ0, vd⟩ := X
  intro H locs ls hls hP hD hS
  exact k H locs ls hls (hP' _ _ _ hP) (hD' _ hD) hS
theorem gj_swap {a b : va_W} (k : gj_G V X Qq (b ++ a) cn sn pc lv st) : gj_G V X Qq (a ++ b) cn sn pc lv st := by
  refine gj_ws (fun D cl H h => ?_) (fun A h => ?_) k
  · exact va_P.app (fun k q hk => h (a.length + k) q (by rw [List.getElem?_append_right (by omega), show a.length + k - a.length = k by omega]; exact hk)) (fun k q hk => h k q (by rw [List.getElem?_append_left (List.getElem?_eq_some_iff.mp hk).1]; exact hk))
  · have ha : ∀ (k : Nat) (q : Nat × va_E), a[k]? = some q → (a ++ b)[k]? = some q := fun k q hk => by rw [List.getElem?_append_left (List.getElem?_eq_some_iff.mp hk).1]; exact hk
    have hb : ∀ (k : Nat) (q : Nat × va_E), b[k]? = some q → (a ++ b)[a.length + k]? = some q := fun k q hk => by rw [List.getElem?_append_right (by omega), show a.length + k - a.length = k by omega]; exact hk
    refine va_D.app ⟨fun i j p q h1 h2 e => ?_, fun k q hk => h.2 _ q (hb k q hk)⟩ ⟨fun i j p q h1 h2 e => h.1 i j p q (ha i p h1) (ha j q h2) e, fun k q hk => h.2 k q (ha k q hk)⟩ (fun i j x y hx hy e => ?_)
    · have := h.1 _ _ p q (hb i p h1) (hb j q h2) e
      omega
    · have := h.1 _ _ x y (hb i x hx) (ha j y hy) e
      have h3 := (List.getElem?_eq_some_iff.mp hy).1
      omega
/-- a call of a system's method: its cells are the last of the list -/
theorem gj_callX (hX : gj_K V X cc own nL fr lo mc ms) {tys' : List (ClassId × FieldType)} {u : gf_U} {ob : Nat → Nat} {σ σ' : gx_S} {r : Int32} {y : MethodName} {ccy : ByteArray} {mL fry loy idx b : Nat} {rty : Option FieldType} {wr : va_W} {stk : List Value} (As : List Value) (n : Nat) (hrt : rty.isNone = false)
    (hM : gx_C X.1.2.1 (gf_V V.1 V.2.1 tys' u ob) y ccy mL rty fry loy (.ref b :: As) σ (some (σ', r))) (hKs : ∀ U, va_K V.1 V.2.1 V.2.2 U → va_K V.1 V.2.1 tys' U)
    (hy : (y.cls ≠ "java/lang/invoke/MethodHandle" ∧ y.cls ≠ "java/lang/invoke/VarHandle") ∧ (parseMethodDescriptor y.desc).map (fun d => d.parameters.length) = some As.length)
    (hcode : Cond.code y ccy mL rty ∈ gx_T) (hlink : Cond.methodLink own idx y ∈ gx_T) (hinst : Cond.instanceMethod y ∈ gx_T) (hsel : Cond.selects y.cls y y ∈ gx_T) (hini : Cond.initialized y.cls ∈ gx_T)
    (hrecv : ∃ (q0 ci : Nat) (q : u_T × Nat), V.2.1[ci]? = some (y.cls, q) ∧ ∃ fs, (gf_w u ob σ)[q0]? = some (b, .inr (ci, fs)))
    (hroom : fry + 1 ≤ fr ∧ 8 + (mL + 11) + loy ≤ lo) (hcn : cn ≤ mc) (hsn : sn ≤ ms) (hst : (st.map fun v => v.category).sum ≤ 8) (hd : decode cc pc = .ok (.invokevirtual idx, 3)) (hn : pc + 3 = n) (hstk : stk = As.reverse ++ .ref b :: st)
    (kk : gj_G V X Qq (wr ++ gf_w u ob σ') cn sn n lv (.int r :: st)) : gj_G V X Qq (wr ++ gf_w u ob σ) cn sn pc lv stk := by
  subst hn
  subst hstk
  obtain ⟨⟨p, l, e, R, s, m, args, below, meth, c⟩, A, σ0, vd⟩ := X
  obtain ⟨hx, hb, hml, hown, hts, hr, hlocks, hK, hA, hf', hl', hRc, hRs, hin2, hZ⟩ := hX
  intro H locs ls hls hP hD hS
  have hMet := hM (σ', r) rfl trivial (fun _ => 0) H.size
  have hPc : va_P V.1 V.2.1 (gf_w u ob σ) H := fun k x hk => hP (wr.length + k) x (by rw [List.getElem?_append_right (by omega), show wr.length + k - wr.length = k by omega]; exact hk)
  have hDc : va_D (fun _ => True) (gf_w u ob σ) := ⟨fun i j a b h1 h2 e => by
    have := hD.1 (wr.length + i) (wr.length + j) a b (by rw [List.getElem?_append_right (by omega), show wr.length + i - wr.length = i by omega]; exact h1) (by rw [List.getElem?_append_right (by omega), show wr.length + j - wr.length = j by omega]; exact h2) e
    omega, fun _ _ _ => trivial⟩
  have hsub : ∀ z, va_A (gf_w u ob σ) H.size z → A z := fun z h => h.elim (fun ⟨k', e', hk'⟩ => hD.2 (wr.length + k') (z, e') (by rw [List.getElem?_append_right (by omega), show wr.length + k' - wr.length = k' by omega]; exact hk')) (fun h => hA z (Nat.le_trans hS.1 h))
  obtain ⟨q0, ci, q, hci, fs, hq0⟩ := hrecv
  obtain ⟨cell, hcell, hobj, hcls⟩ := va_recv hK hPc hci hq0
  intro T hT X0
  have hBk : Back l R p e below s args y 3 8 (PreOf R 0 0 _) _ := gx_back hMet gx_blind rfl rfl (by show fry + 1 ≤ R.frames; omega) (by show 8 + (mL + 11) + loy ≤ R.locals; omega) (gx_wsok hts hcode) List.mem_cons_self (fun a' U hW => word_at hW (gx_good _ hini) (hts _ hini))
  obtain ⟨v, vm₁, ⟨U', l2, c2, s2⟩, hW₁, X', ⟨g', mk, t, L, e1, e2, hq, h1', hL, h2', h3'⟩, stp⟩ := callV X0 hx (C := y.cls) (bytes := ccy) (maxL := mL) (ret := rty) hown (hts _ hlink) (hts _ hinst) (hts _ hsel) (hts _ hcode) hy.1 hBk (by rw [hT]; exact hcell) hobj hcls (g := F0 m pc ls (As.reverse ++ .ref b :: st)) rfl hls.1 (argsL := As) (rest := st) (fun sig h => by have h3 := hy.2; rw [h] at h3; exact (Option.some.inj h3).symm) rfl (lv_room (m := m) (pc := pc) (ls := ls) (rest := As.reverse ++ .ref b :: st) hst) (by rw [hb]; exact hd)
    (fun vm₁ hW₁ => ⟨by show cn + 0 ≤ R.cells; omega, by show sn + 0 ≤ R.slots; omega, rfl, by show T.heap.size = H.size; rw [hT], by show va_P _ _ _ T.heap; rw [hT]; exact hPc, hKs _ (va_K.moved hW₁.alike hK), hDc⟩)
  dsimp only [Pt.U, Pt.locs, Pt.cells, Pt.slots] at X' e1 e2 h1' h2' h3' stp
  subst h1'; subst h2'; subst h3'
  obtain ⟨hv, hok, hpc, hps, ⟨ar', hP', hD'⟩, hF⟩ := hq
  have hv : v = some (.int r) := by
    have h := Outcome.returned.inj hv
    rw [hrt] at h
    exact h
  have hF : va_F (va_A (gf_w u ob σ) H.size) _ t := hF
  have hz : H.size ≤ t.heap.size := by have := hF.1; rw [show ((T.setVm vm₁).calling g' mk (Value.ref b :: As).toArray).heap = H from hT] at this; exact this
  have hkeep : ∀ z : Nat, z < H.size → ¬ va_A (gf_w u ob σ) H.size z → t.heap[z]? = H[z]? := fun z a1 a2 => by
    have := hF.2 z (by rw [show ((T.setVm vm₁).calling g' mk (Value.ref b :: As).toArray).heap = H from hT]; exact a1) a2
    rw [show ((T.setVm vm₁).calling g' mk (Value.ref b :: As).toArray).heap = H from hT] at this; exact this
  obtain ⟨hP2, hD2⟩ := gi_join hP hD hkeep hsub hP' hD'
  have hS' : va_S A s.heap t.heap (locs ++ L) := by
    refine ⟨Nat.le_trans hS.1 hz, fun z a1 a2 => ?_, fun z hq => ?_⟩
    · rw [hkeep z (Nat.lt_of_lt_of_le a1 hS.1) (fun h => a2 (hsub z h))]; exact hS.2.1 z a1 a2
    · rcases List.mem_append.mp hq with h | h
      · exact hS.2.2 z h
      · exact hsub _ (hL z h)
  obtain ⟨t2, a1, b1⟩ := kk t.heap (locs ++ L) ls hls hP2 hD2 hS' U' e1 X'
  subst hv
  exact ⟨t2, stp t2 a1, b1⟩
end GJ
