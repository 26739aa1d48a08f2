/-! CALLS: a contract gx_C, out of a walk gx_G, and the row of its call -/
def gx_C (l : Launch) (V : gx_V) (y : MethodName) (cc : ByteArray) (mL : Nat) (rt : Option FieldType) (fr lo : Nat) (av : List Value) (σ : gx_S) (res : gx_R) : Prop :=
  ∀ out, res = some out → V.2.2.1 σ → ∀ (ar : Nat → Nat) (sz : Nat), Met l y (Cond.code y cc mL rt :: gx_T) { frames := fr, cells := V.2.2.2.1 σ, slots := V.2.2.2.2 σ, locals := lo } (va_Pc av (fun U => U.heap.size = sz ∧ va_P V.1.1 V.1.2.1 (V.2.1 ar σ) U.heap ∧ va_K V.1.1 V.1.2.1 V.1.2.2 U ∧ va_D (fun _ => True) (V.2.1 ar σ))) (gx_Q V rt.isNone (va_A (V.2.1 ar σ) sz) σ out) (V.2.2.2.1 σ - V.2.2.2.1 out.1) (V.2.2.2.2 σ - V.2.2.2.2 out.1) (va_A (V.2.1 ar σ) sz)
theorem gx_met {l : Launch} {V : gx_V} {y : MethodName} {cc : ByteArray} {mL : Nat} {rt : Option FieldType} {fr lo : Nat} {av : List Value} {σ : gx_S} {res : gx_R} {lv : List (Nat × Value)} {own : String} (hy : plainName y.cls = true) (hown : y.cls = own) (hlen : (lg_sl av).length ≤ mL) (hlv : lv_args 0 av = lv)
    (h : ∀ X : gx_X, X.1.2.1 = l → gx_K V X cc own mL fr lo rt → gx_G V X res σ 0 lv []) : gx_C l V y cc mL rt fr lo av σ res := by
  intro out h1 h2 ar sz
  refine Met.ofW (cc := cc) (maxL := mL) (ret := rt) hy rfl ?_
  intro p e s m args below meth c s₁ B hml hv
  obtain ⟨rfl, hsz, hP, hK, hD0⟩ := hv
  subst hsz
  subst hown
  subst hlv
  have hts := atoms_spec (ws := Cond.code y cc mL rt :: gx_T) B.pre
  have hcls : s.vm.findClass y.cls = some m.cls := findClass_of_methodNamed B.named
  have hD := hD0.self (sz := s.heap.size)
  have hl := lv_entry av (n := mL) hlen
  rw [lg_entry_eq]
  exact h ((p, l, e, _, s, m, _, below, meth, c), va_A (V.2.1 ar σ) s.heap.size, σ, rt.isNone) rfl ⟨B.exec, B.bytes, hml, hcls, fun w hw => hts w (List.mem_cons_of_mem _ hw), B.returns, B.notSynchronized, hK, fun q hq => Or.inr hq, Nat.le_refl _, Nat.le_refl _, Nat.le_refl _, Nat.le_refl _, rfl⟩ out h1 h2 ar s.heap [] 0 0 _ (by rw [hml]; exact hl) hP hD va_S.rf (by omega) (by omega)
section GXC
variable {l : Launch} {R : Room} {p : Program} {e : Env} {below : List Frame} {s : State} {sargs : Array Value} {y : MethodName} {len Wd : Nat}
/-- a callee that asks for more room than it uses -/
theorem gx_back {ws : List Cond} {rm : Room} {Pc : Array Value → State → Prop} {Qc : Array Value → State → Outcome → State → Prop} {mc ms rc rs : Nat} {free : Addr → Prop} {bytes : ByteArray} {maxL : Nat} {ret : Option FieldType}
    (hM : Met l y ws rm Pc Qc mc ms free) (hblind : FrameBlind Pc) (hrc : rm.cells = rc) (hrs : rm.slots = rs) (hframes : rm.frames + 1 ≤ R.frames) (hlocals : Wd + (maxL + 11) + rm.locals ≤ R.locals)
    (hws : ∀ w ∈ ws, ∀ a' U, s.WarmedH U.vm → w.before a' U = true) (hcode : Cond.code y bytes maxL ret ∈ ws) (hinit : ∀ a' U, s.WarmedH U.vm → (Cond.initialized y.cls).before a' U = true) :
    Back l R p e below s sargs y len Wd (PreOf R rc rs Pc) (PostOf Qc mc ms free) := by
  refine Back.of_free (S := headSpec ws rm) (P := Pc) (K := fun _ _ _ _ _ => True) (Q := fun a st o t => Qc a st o t ∧ ∃ L, FrameEnd st o t L mc ms ∧ ∀ q ∈ L, free q.base) (bytes := bytes) (maxL := maxL) (ret := ret)
    (E := fun a st o t L k n => k = mc ∧ n = ms ∧ ∀ q ∈ L, free q.base) hM hframes hlocals ?_ ?_ (fun _ _ _ _ _ _ _ _ _ => trivial) ?_ ?_
  · intro m meth c A a X hp
    exact ⟨atoms_intro fun w hw => hws w hw _ _ X.warmed, hws _ hcode _ _ X.warmed, hinit _ _ X.warmed, by rw [show (headSpec ws rm).room.cells = rc from hrc]; exact hp.1, by rw [show (headSpec ws rm).room.slots = rs from hrs]; exact hp.2.1⟩
  · intro m meth c A a g mk X hp
    exact hblind _ _ _ _ hp.2.2
  · intro a st o t ⟨hq, L, hF, hL⟩
    exact ⟨L, mc, ms, hF, rfl, rfl, hL⟩
  · intro m meth c A a g mk v t L k n X hp hq hF ⟨e1, e2, hL⟩
    subst e1; subst e2
    exact ⟨g, mk, t, L, rfl, rfl, hq.1, rfl, hL, rfl, rfl⟩
end GXC
theorem gx_wsok {s : State} {args : Array Value} (hts : ∀ w ∈ gx_T, w.before args s = true) {y : MethodName} {cc : ByteArray} {mL : Nat} {rt : Option FieldType} (hc : Cond.code y cc mL rt ∈ gx_T) : ∀ w ∈ Cond.code y cc mL rt :: gx_T, ∀ (a' : Array Value) (U : State), s.WarmedH U.vm → w.before a' U = true := by
  intro w hw a' U hW
  have h1 : w ∈ gx_T := by
    rcases List.mem_cons.mp hw with rfl | h
    · exact hc
    · exact h
  exact word_at hW (gx_good w h1) (hts w h1)
theorem gx_blind {V : gx_V} {av : List Value} {sz : Nat} {ws : va_W} : FrameBlind (va_Pc av (fun U => U.heap.size = sz ∧ va_P V.1.1 V.1.2.1 ws U.heap ∧ va_K V.1.1 V.1.2.1 V.1.2.2 U ∧ va_D (fun _ => True) ws)) := by
  intro a U g mk q
  obtain ⟨q0, q1, qP, qK, qD⟩ := q
  exact ⟨q0, q1, qP, va_K.moved (u := U) (U := U.calling g mk a) (Vm.Alike.refl U.vm) qK, qD⟩
section GXD
variable {V : gx_V} {X : gx_X} {cc : ByteArray} {own : String} {nL fr lo : Nat} {rt : Option FieldType} {res : gx_R} {σ : gx_S} {pc : Nat} {lv : List (Nat × Value)} {st : List Value}
/-- invokevirtual of a method with a contract -/
theorem gx_callV (hX : gx_K V X cc own nL fr lo rt) {y : MethodName} {ccy : ByteArray} {mL fry loy idx b : Nat} {rty : Option FieldType} {resy : gx_R} {k : gx_S → Int32 → gx_R} {stk : List Value} (As : List Value) (n : Nat)
    (hM : gx_C X.1.2.1 V y ccy mL rty fry loy (.ref b :: As) σ resy)
    (hy : (y.cls ≠ "java/lang/invoke/MethodHandle" ∧ y.cls ≠ "java/lang/invoke/VarHandle") ∧ (parseMethodDescriptor y.desc).map (fun d => d.parameters.length) = some As.length)
    (hcode : Cond.code y ccy mL rty ∈ gx_T) (hlink : Cond.methodLink own idx y ∈ gx_T) (hinst : Cond.instanceMethod y ∈ gx_T) (hsel : Cond.selects y.cls y y ∈ gx_T) (hini : Cond.initialized y.cls ∈ gx_T)
    (hrecv : ∃ (q0 ci : Nat) (q : u_T × Nat), V.1.2.1[ci]? = some (y.cls, q) ∧ ∀ ar, ∃ fs, (V.2.1 ar σ)[q0]? = some (b, .inr (ci, fs)))
    (hroom : fry + 1 ≤ fr ∧ 8 + (mL + 11) + loy ≤ lo) (hst : (st.map fun v => v.category).sum ≤ 8) (hd : decode cc pc = .ok (.invokevirtual idx, 3)) (hn : pc + 3 = n) (hstk : stk = As.reverse ++ .ref b :: st)
    (kk : ∀ σ' r, resy = some (σ', r) → gx_G V X (k σ' r) σ' n lv ((if rty.isNone then [] else [.int r]) ++ st)) : gx_G V X (gx_bd resy k) σ pc lv stk := by
  subst hn
  subst hstk
  obtain ⟨⟨p, l, e, R, s, m, args, below, meth, c⟩, A, σ0, vd⟩ := X
  obtain ⟨hx, hb, hml, hown, hts, hr, hlocks, hK, hA, hfr, hlo, hRc, hRs, hvd⟩ := hX
  intro out h1 h2 ar H locs cells slots ls hls hP hD hS hc hs
  cases hres : resy with
  | none => rw [hres] at h1; cases h1
  | some o =>
    rw [hres] at h1
    have h1 : k o.1 o.2 = some out := h1
    have hMet := hM o hres h2 ar H.size
    have hsub : ∀ q, va_A (V.2.1 ar σ) H.size q → A q := fun q h => h.elim (fun ⟨k', e', hk'⟩ => hD.2 k' (q, e') hk') (fun h => hA q (Nat.le_trans hS.1 h))
    intro T hT X0
    have hBk : Back l R p e below s args y 3 8 (PreOf R (V.2.2.2.1 σ) (V.2.2.2.2 σ) _) _ := gx_back hMet gx_blind rfl rfl (by show fry + 1 ≤ R.frames; omega) (by show 8 + (mL + 11) + loy ≤ R.locals; omega) (gx_wsok hts hcode) List.mem_cons_self (fun a' U hW => word_at hW (gx_good _ hini) (hts _ hini))
    obtain ⟨q0, ci, q, hci, hq0⟩ := hrecv
    obtain ⟨fs, hq0⟩ := hq0 ar
    obtain ⟨cell, hcell, hobj, hcls⟩ := va_recv hK hP hci hq0
    obtain ⟨v, vm₁, ⟨U', l2, c2, s2⟩, hW₁, X', ⟨g', mk, t, L, e1, e2, hq, h1', hL, h2', h3'⟩, stp⟩ := callV X0 hx (C := y.cls) (bytes := ccy) (maxL := mL) (ret := rty) hown (hts _ hlink) (hts _ hinst) (hts _ hsel) (hts _ hcode) hy.1 hBk (by rw [hT]; exact hcell) hobj hcls (g := F0 m pc ls (As.reverse ++ .ref b :: st)) rfl hls.1 (argsL := As) (rest := st) (fun sig h => by have h3 := hy.2; rw [h] at h3; exact (Option.some.inj h3).symm) rfl (lv_room (m := m) (pc := pc) (ls := ls) (rest := As.reverse ++ .ref b :: st) hst) (by rw [hb]; exact hd)
      (fun vm₁ hW₁ => ⟨by show cells + V.2.2.2.1 σ ≤ R.cells; omega, by show slots + V.2.2.2.2 σ ≤ R.slots; omega, rfl, by show T.heap.size = H.size; rw [hT], by show va_P _ _ _ T.heap; rw [hT]; exact hP, va_K.moved hW₁.alike hK, hD.weaken (fun _ _ _ _ => trivial)⟩)
    dsimp only [Pt.U, Pt.locs, Pt.cells, Pt.slots] at X' e1 e2 h1' h2' h3' stp
    subst h1'; subst h2'; subst h3'
    obtain ⟨hv, hok, hpc, hps, ⟨ar', hP', hD'⟩, hF⟩ := hq
    have hv : v = if rty.isNone then none else some (.int o.2) := Outcome.returned.inj hv
    have hF : va_F (va_A (V.2.1 ar σ) H.size) _ t := hF
    have hz : H.size ≤ t.heap.size := by have := hF.1; rw [show ((T.setVm vm₁).calling g' mk (Value.ref b :: As).toArray).heap = H from hT] at this; exact this
    have hkeep : ∀ q : Nat, q < H.size → ¬ va_A (V.2.1 ar σ) H.size q → t.heap[q]? = H[q]? := fun q a1 a2 => by
      have := hF.2 q (by rw [show ((T.setVm vm₁).calling g' mk (Value.ref b :: As).toArray).heap = H from hT]; exact a1) a2
      rw [show ((T.setVm vm₁).calling g' mk (Value.ref b :: As).toArray).heap = H from hT] at this; exact this
    have hS' : va_S A s.heap t.heap (locs ++ L) := by
      refine ⟨Nat.le_trans hS.1 hz, fun q a1 a2 => ?_, fun q hq => ?_⟩
      · rw [hkeep q (Nat.lt_of_lt_of_le a1 hS.1) (fun h => a2 (hsub q h))]; exact hS.2.1 q a1 a2
      · rcases List.mem_append.mp hq with h | h
        · exact hS.2.2 q h
        · exact hsub _ (hL q h)
    obtain ⟨t2, a1, b1⟩ := kk o.1 o.2 hres out h1 hok ar' t.heap (locs ++ L) (cells + (V.2.2.2.1 σ - V.2.2.2.1 o.1)) (slots + (V.2.2.2.2 σ - V.2.2.2.2 o.1)) ls hls hP' (hD'.weaken (fun _ q _ h => hsub q.1 h)) hS' (by omega) (by omega) U' e1 X'
    refine ⟨t2, stp t2 ?_, b1⟩
    subst hv
    cases hn : rty.isNone <;> rw [hn] at a1 <;> exact a1
/-- the same, with an answer; without one; where the answer alone matters -/
theorem gx_callI (hX : gx_K V X cc own nL fr lo rt) {y : MethodName} {ccy : ByteArray} {mL fry loy idx b : Nat} {rty : Option FieldType} {resy : gx_R} {k : gx_S → Int32 → gx_R} {stk : List Value} (As : List Value) (n : Nat) (hrt : rty.isNone = false)
    (hM : gx_C X.1.2.1 V y ccy mL rty fry loy (.ref b :: As) σ resy)
    (hy : (y.cls ≠ "java/lang/invoke/MethodHandle" ∧ y.cls ≠ "java/lang/invoke/VarHandle") ∧ (parseMethodDescriptor y.desc).map (fun d => d.parameters.length) = some As.length)
    (hcode : Cond.code y ccy mL rty ∈ gx_T) (hlink : Cond.methodLink own idx y ∈ gx_T) (hinst : Cond.instanceMethod y ∈ gx_T) (hsel : Cond.selects y.cls y y ∈ gx_T) (hini : Cond.initialized y.cls ∈ gx_T)
    (hrecv : ∃ (q0 ci : Nat) (q : u_T × Nat), V.1.2.1[ci]? = some (y.cls, q) ∧ ∀ ar, ∃ fs, (V.2.1 ar σ)[q0]? = some (b, .inr (ci, fs)))
    (hroom : fry + 1 ≤ fr ∧ 8 + (mL + 11) + loy ≤ lo) (hst : (st.map fun v => v.category).sum ≤ 8) (hd : decode cc pc = .ok (.invokevirtual idx, 3)) (hn : pc + 3 = n) (hstk : stk = As.reverse ++ .ref b :: st)
    (kk : ∀ σ' r, resy = some (σ', r) → gx_G V X (k σ' r) σ' n lv (.int r :: st)) : gx_G V X (gx_bd resy k) σ pc lv stk :=
  gx_callV hX As n hM hy hcode hlink hinst hsel hini hrecv hroom hst hd hn hstk (fun σ' r h => by rw [hrt]; exact kk σ' r h)
theorem gx_callW (hX : gx_K V X cc own nL fr lo rt) {y : MethodName} {ccy : ByteArray} {mL fry loy idx b : Nat} {resy : gx_R} {k : gx_S → Int32 → gx_R} {stk : List Value} (As : List Value) (n : Nat)
    (hM : gx_C X.1.2.1 V y ccy mL none fry loy (.ref b :: As) σ resy)
    (hy : (y.cls ≠ "java/lang/invoke/MethodHandle" ∧ y.cls ≠ "java/lang/invoke/VarHandle") ∧ (parseMethodDescriptor y.desc).map (fun d => d.parameters.length) = some As.length)
    (hcode : Cond.code y ccy mL none ∈ gx_T) (hlink : Cond.methodLink own idx y ∈ gx_T) (hinst : Cond.instanceMethod y ∈ gx_T) (hsel : Cond.selects y.cls y y ∈ gx_T) (hini : Cond.initialized y.cls ∈ gx_T)
    (hrecv : ∃ (q0 ci : Nat) (q : u_T × Nat), V.1.2.1[ci]? = some (y.cls, q) ∧ ∀ ar, ∃ fs, (V.2.1 ar σ)[q0]? = some (b, .inr (ci, fs)))
    (hroom : fry + 1 ≤ fr ∧ 8 + (mL + 11) + loy ≤ lo) (hst : (st.map fun v => v.category).sum ≤ 8) (hd : decode cc pc = .ok (.invokevirtual idx, 3)) (hn : pc + 3 = n) (hstk : stk = As.reverse ++ .ref b :: st)
    (kk : ∀ σ' r, resy = some (σ', r) → gx_G V X (k σ' r) σ' n lv st) : gx_G V X (gx_bd resy k) σ pc lv stk :=
  gx_callV hX As n hM hy hcode hlink hinst hsel hini hrecv hroom hst hd hn hstk (fun σ' r h => kk σ' r h)
end GXD
