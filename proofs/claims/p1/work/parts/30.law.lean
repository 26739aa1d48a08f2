/-! THE CLAIM OUT OF ONE WALK OF THE LAW'S BODY. Your part is whole_start (and what it stands on); all else here is the same for every law, but numbers. -/
def R_law : String := "TypeLoomLaw"
def lw_P (b : Addr) (xs : List Int32) (args : Array Value) (s : State) : Prop := args = #[.ref b] ∧ s.IntsAt b xs ∧ xs.length ≤ 7 ∧ (Jvm.Cond.and given_1 narrow_1).before args s = true
def lw_Q (_ : Array Value) (s : State) (o : Outcome) (t : State) : Prop := o = .returned (some (.int 1)) ∧ Framed s o t [] 600000 7302250
def lw_Z (below : List Frame) (a : Array Value) (s : State) : State → Prop := fun t => ∃ o, t.status = .running ∧ Ended t below o ∧ lw_Q a s o t
/-- the law's own end, with 1 on the stack, nothing written that was there before, its room as the claim has it -/
theorem lw_ret {p : Program} {l : Launch} {e : Env} {s : State} {m : MethodId} {below : List Frame} {meth : Method} {c : Code} {b : Nat} (hx : p.tables.exec = Jvm.exec) (hb : c.code = code) (hr : meth.sig.returnType = ret) (hlocks : meth.locks = false) {pc : Nat} {H : Heap} {ls : Array Slot} (hdg : decode code pc = .ok (.ireturn, 1)) : W p l e room_1 s m #[Value.ref b] below meth c H [] 600000 7302250 (lw_Z below #[Value.ref b] s) (F0 m pc ls [.int 1]) := by
  intro T hT X
  obtain ⟨fs, hret, hrun, hended, hW, hframe⟩ := X.leave (v := some (.int 1)) (hlocks := hlocks) (fun h => by rw [hr] at h; cases h)
  have hmeth' : T.vm.method? m = some meth := X.method'
  refine ⟨T.setFrames fs, ?_, .returned (some (.int 1)), hrun, hended, rfl, ⟨_, rfl⟩, hW, hframe⟩
  jvm_step X.here [X.here.top, hx, hb, hdg, hmeth', hr, ret, narrow_b1]
  (try refine ⟨rfl, ?_⟩); (try refine ⟨rfl, ?_⟩)
  first | (intro acts; rw [hret _ acts rfl rfl rfl]) | rw [hret _ _ rfl rfl rfl]
  exact Steps.refl _
/-- what holds at the law's entry: the machine, the code, the tables' words (any of lw_tbl by 'hts w (by decide +kernel)'), the script of L ints xs at the cell b, what the Statement gives of the start (any of its parts by flat_of_before) -/
def lw_At (p : Program) (s : State) (m : MethodId) (meth : Method) (c : Code) (b L : Nat) (xs : Nat → Int32) : Prop :=
  p.tables.exec = Jvm.exec ∧ c.code = code ∧ meth.sig.returnType = ret ∧ c.maxLocals = 4 ∧ s.vm.findClass R_law = some m.cls ∧ (∀ w ∈ lw_tbl, w.before #[Value.ref b] s = true) ∧ va_X b L xs s s.heap ∧ b < s.heap.size ∧ meth.locks = false ∧ (Jvm.Cond.and given_1 narrow_1).before #[Value.ref b] s = true
theorem tw_83 : (Jvm.Cond.classLink "TypeLoomLaw" (7 : Nat) "TypeLoom") ∈ gx_T := gx_mem (i := 83) (by decide +kernel) (by decide +kernel)
theorem tw_85 : (Jvm.Cond.methodLink "TypeLoomLaw" (9 : Nat) ({ cls := "TypeLoom", name := "<init>", desc := "()V" } : Jvm.MethodName)) ∈ gx_T := gx_mem (i := 85) (by decide +kernel) (by decide +kernel)
theorem tw_86 : (Jvm.Cond.instanceMethod ({ cls := "TypeLoom", name := "<init>", desc := "()V" } : Jvm.MethodName)) ∈ gx_T := gx_mem (i := 86) (by decide +kernel) (by decide +kernel)
theorem tw_87 : (Jvm.Cond.code ({ cls := "TypeLoom", name := "<init>", desc := "()V" } : Jvm.MethodName) prog_1_method_1_code (1 : Nat) (Option.none : Option Jvm.ClassFile.FieldType)) ∈ gx_T := gx_mem (i := 87) (by decide +kernel) (by decide +kernel)
theorem tw_898 : (Jvm.Cond.classLink "TypeLoomLaw" (10 : Nat) "TypeLoomModel") ∈ gx_T := gx_mem (i := 898) (by decide +kernel) (by decide +kernel)
theorem tw_900 : (Jvm.Cond.methodLink "TypeLoomLaw" (12 : Nat) ({ cls := "TypeLoomModel", name := "<init>", desc := "()V" } : Jvm.MethodName)) ∈ gx_T := gx_mem (i := 900) (by decide +kernel) (by decide +kernel)
theorem tw_901 : (Jvm.Cond.instanceMethod ({ cls := "TypeLoomModel", name := "<init>", desc := "()V" } : Jvm.MethodName)) ∈ gx_T := gx_mem (i := 901) (by decide +kernel) (by decide +kernel)
theorem tw_902 : (Jvm.Cond.code ({ cls := "TypeLoomModel", name := "<init>", desc := "()V" } : Jvm.MethodName) prog_11_method_1_code (2 : Nat) (Option.none : Option Jvm.ClassFile.FieldType)) ∈ gx_T := gx_mem (i := 902) (by decide +kernel) (by decide +kernel)
theorem gj_cs {V : gi_V} {X : gx_X} {Qq : State → Prop} {ws : va_W} {cn sn pc cn' sn' : Nat} {lv : List (Nat × Value)} {st : List Value} (hc : cn = cn') (hs : sn = sn') (k : gj_G V X Qq ws cn' sn' pc lv st) : gj_G V X Qq ws cn sn pc lv st := by
  subst hc
  subst hs
  exact k
theorem gj_nil {V : gi_V} {X : gx_X} {Qq : State → Prop} {ws : va_W} {cn sn pc : Nat} {lv : List (Nat × Value)} {st : List Value} (k : gj_G V X Qq ws cn sn pc lv st) : gj_G V X Qq ([] ++ ws) cn sn pc lv st := by
  rw [List.nil_append]
  exact k
theorem gj_end {p : Program} {l : Launch} {e : Env} {s : State} {m : MethodId} {below : List Frame} {meth : Method} {c : Code} {b : Nat} {V : gi_V} (hx : p.tables.exec = Jvm.exec) (hb : c.code = code) (hr : meth.sig.returnType = ret) (hlocks : meth.locks = false) {ws : va_W} {cn sn : Nat} {lv : List (Nat × Value)} (h1 : cn ≤ 600000) (h2 : sn ≤ 7302250) : gj_G V ((p, l, e, room_1, s, m, #[Value.ref b], below, meth, c), (fun q : Nat => s.heap.size ≤ q), tc_0, true) (lw_Z below #[Value.ref b] s) ws cn sn 861 lv [.int 1] := by
  intro H locs ls hls hP hD hS
  refine va_forget (fun q hq => hS.2.2 q hq) ?_
  refine W.widen (k := 600000) (n := 7302250) h1 h2 ?_
  exact lw_ret hx hb hr hlocks dw_L_law_861
theorem lw_less : ∀ L, L < 7 → nI L - 7 < 0 := by decide +kernel
theorem lw_seven : nI 7 - 7 < 7 := by decide +kernel
set_option maxRecDepth 100000 in
set_option maxHeartbeats 4000000 in
theorem law_head {V : gi_V} {X : gx_X} {Qq : State → Prop} {b L : Nat} {xs : Nat → Int32} (hX : gj_K V X code "TypeLoomLaw" 4 11 460 600000 7302250) (hB : va_X b L xs X.1.2.2.2.2.1 X.1.2.2.2.2.1.heap ∧ b < X.1.2.2.2.2.1.heap.size ∧ ¬ X.2.1 b) (hend : ∀ (ws : va_W) (cn sn : Nat) (lv : List (Nat × Value)), cn ≤ 600000 → sn ≤ 7302250 → gj_G V X Qq ws cn sn 861 lv [.int 1]) {ws : va_W} {cn sn : Nat} {x : Int32} {lv : List (Nat × Value)} (h1 : cn ≤ 600000) (h2 : sn ≤ 7302250) (q3 q0 : Nat) (hq3 : lv[q3]? = some (3, .int x)) (hq0 : lv[q0]? = some (0, .ref b))
    (k : ¬ (nI L - 7 < x) → gj_G V X Qq ws cn sn 27 lv []) : gj_G V X Qq ws cn sn 18 lv [] := by
  refine gj_iload_n hX q3 19 dw_L_law_18 rfl hq3 rfl ?_
  refine gj_aload_n hX q0 20 dw_L_law_19 rfl hq0 rfl ?_
  refine gj_slen (L := L) (xs := xs) hX 21 hB dw_L_law_20 rfl ?_
  refine gj_bipush hX 7 23 dw_L_law_21 (by decide) rfl ?_
  refine gj_isub hX 24 dw_L_law_23 rfl ?_
  refine gj_icmp_gt hX 860 27 dw_L_law_24 (by decide) rfl (fun _ => ?_) k
  refine gj_iconst hX 1 861 dw_L_law_860 (by decide) rfl ?_
  exact hend _ _ _ _ h1 h2
set_option maxRecDepth 100000 in
set_option maxHeartbeats 4000000 in
theorem law_sw {D : va_G} {cI cB cS cZ : ClassId} {X : gx_X} {Qq : State → Prop} {ob om : Nat → Nat} {fl : Nat → Int32} {b L : Nat} {xs : Nat → Int32} (hX : gj_K (D, tq_cl, [(cI, .int), (cB, .byte), (cS, .short), (cZ, .boolean)]) X code "TypeLoomLaw" 4 11 460 600000 7302250) (hB : va_X b L xs X.1.2.2.2.2.1 X.1.2.2.2.2.1.heap ∧ b < X.1.2.2.2.2.1.heap.size ∧ ¬ X.2.1 b) (hL : L = 7) (hE : ∀ σ τ, gj_G (D, tq_cl, [(cI, .int), (cB, .byte), (cS, .short), (cZ, .boolean)]) X Qq (gf_w (tc_u ob cI) ob σ ++ gf_w (md_u om cI cB cS cZ) om τ) 155 1132377 854 [(3, .int 0), (2, .ref (om 0)), (1, .ref (ob 0)), (0, .ref b)] []) (v : Int32) : gj_G (D, tq_cl, [(cI, .int), (cB, .byte), (cS, .short), (cZ, .boolean)]) X Qq (gf_w (tc_u ob cI) ob tc_0 ++ gf_w (md_u om cI cB cS cZ) om (md_0 fl)) 155 1132377 33 [(3, .int 0), (2, .ref (om 0)), (1, .ref (ob 0)), (0, .ref b)] [.int v] := by
  by_cases c0 : v = 0
  · subst c0
    refine gj_tswIn hX (off := 87) 120 dw_L_law_33 (by decide) (by decide) (by decide +kernel) (by decide) ?_
    exact lc_0 hX hB hL hE
  by_cases c1 : v = 1
  · subst c1
    refine gj_tswIn hX (off := 120) 153 dw_L_law_33 (by decide) (by decide) (by decide +kernel) (by decide) ?_
    exact lc_1 hX hB hL hE
  by_cases c2 : v = 2
  · subst c2
    refine gj_tswIn hX (off := 153) 186 dw_L_law_33 (by decide) (by decide) (by decide +kernel) (by decide) ?_
    exact lc_2 hX hB hL hE
  by_cases c3 : v = 3
  · subst c3
    refine gj_tswIn hX (off := 176) 209 dw_L_law_33 (by decide) (by decide) (by decide +kernel) (by decide) ?_
    exact lc_3 hX hB hL hE
  by_cases c4 : v = 4
  · subst c4
    refine gj_tswIn hX (off := 215) 248 dw_L_law_33 (by decide) (by decide) (by decide +kernel) (by decide) ?_
    exact lc_4 hX hB hL hE
  by_cases c5 : v = 5
  · subst c5
    refine gj_tswIn hX (off := 248) 281 dw_L_law_33 (by decide) (by decide) (by decide +kernel) (by decide) ?_
    exact lc_5 hX hB hL hE
  by_cases c6 : v = 6
  · subst c6
    refine gj_tswIn hX (off := 297) 330 dw_L_law_33 (by decide) (by decide) (by decide +kernel) (by decide) ?_
    exact lc_6 hX hB hL hE
  by_cases c7 : v = 7
  · subst c7
    refine gj_tswIn hX (off := 336) 369 dw_L_law_33 (by decide) (by decide) (by decide +kernel) (by decide) ?_
    exact lc_7 hX hB hL hE
  by_cases c8 : v = 8
  · subst c8
    refine gj_tswIn hX (off := 359) 392 dw_L_law_33 (by decide) (by decide) (by decide +kernel) (by decide) ?_
    exact lc_8 hX hB hL hE
  by_cases c9 : v = 9
  · subst c9
    refine gj_tswIn hX (off := 392) 425 dw_L_law_33 (by decide) (by decide) (by decide +kernel) (by decide) ?_
    exact lc_9 hX hB hL hE
  by_cases c10 : v = 10
  · subst c10
    refine gj_tswIn hX (off := 507) 540 dw_L_law_33 (by decide) (by decide) (by decide +kernel) (by decide) ?_
    exact lc_10 hX hB hL hE
  by_cases c11 : v = 11
  · subst c11
    refine gj_tswIn hX (off := 580) 613 dw_L_law_33 (by decide) (by decide) (by decide +kernel) (by decide) ?_
    exact lc_11 hX hB hL hE
  by_cases c12 : v = 12
  · subst c12
    refine gj_tswIn hX (off := 653) 686 dw_L_law_33 (by decide) (by decide) (by decide +kernel) (by decide) ?_
    exact lc_12 hX hB hL hE
  by_cases c13 : v = 13
  · subst c13
    refine gj_tswIn hX (off := 676) 709 dw_L_law_33 (by decide) (by decide) (by decide +kernel) (by decide) ?_
    exact lc_13 hX hB hL hE
  by_cases c14 : v = 14
  · subst c14
    refine gj_tswIn hX (off := 709) 742 dw_L_law_33 (by decide) (by decide) (by decide +kernel) (by decide) ?_
    exact lc_14 hX hB hL hE
  by_cases c15 : v = 15
  · subst c15
    refine gj_tswIn hX (off := 732) 765 dw_L_law_33 (by decide) (by decide) (by decide +kernel) (by decide) ?_
    exact lc_15 hX hB hL hE
  by_cases c16 : v = 16
  · subst c16
    refine gj_tswIn hX (off := 765) 798 dw_L_law_33 (by decide) (by decide) (by decide +kernel) (by decide) ?_
    exact lc_16 hX hB hL hE
  by_cases c17 : v = 17
  · subst c17
    refine gj_tswIn hX (off := 798) 831 dw_L_law_33 (by decide) (by decide) (by decide +kernel) (by decide) ?_
    exact lc_17 hX hB hL hE
  refine gj_tswOut hX 854 dw_L_law_33 ?_ (by decide) (hE tc_0 (md_0 fl))
  have n0 : ¬ v.toInt = 0 := lv_neT (k := 0) c0 (by decide)
  have n1 : ¬ v.toInt = 1 := lv_neT (k := 1) c1 (by decide)
  have n2 : ¬ v.toInt = 2 := lv_neT (k := 2) c2 (by decide)
  have n3 : ¬ v.toInt = 3 := lv_neT (k := 3) c3 (by decide)
  have n4 : ¬ v.toInt = 4 := lv_neT (k := 4) c4 (by decide)
  have n5 : ¬ v.toInt = 5 := lv_neT (k := 5) c5 (by decide)
  have n6 : ¬ v.toInt = 6 := lv_neT (k := 6) c6 (by decide)
  have n7 : ¬ v.toInt = 7 := lv_neT (k := 7) c7 (by decide)
  have n8 : ¬ v.toInt = 8 := lv_neT (k := 8) c8 (by decide)
  have n9 : ¬ v.toInt = 9 := lv_neT (k := 9) c9 (by decide)
  have n10 : ¬ v.toInt = 10 := lv_neT (k := 10) c10 (by decide)
  have n11 : ¬ v.toInt = 11 := lv_neT (k := 11) c11 (by decide)
  have n12 : ¬ v.toInt = 12 := lv_neT (k := 12) c12 (by decide)
  have n13 : ¬ v.toInt = 13 := lv_neT (k := 13) c13 (by decide)
  have n14 : ¬ v.toInt = 14 := lv_neT (k := 14) c14 (by decide)
  have n15 : ¬ v.toInt = 15 := lv_neT (k := 15) c15 (by decide)
  have n16 : ¬ v.toInt = 16 := lv_neT (k := 16) c16 (by decide)
  have n17 : ¬ v.toInt = 17 := lv_neT (k := 17) c17 (by decide)
  clear hX hB hE
  omega
set_option maxRecDepth 100000 in
set_option maxHeartbeats 4000000 in
theorem law_27 {D : va_G} {cI cB cS cZ : ClassId} {X : gx_X} {Qq : State → Prop} {ob om : Nat → Nat} {fl : Nat → Int32} {b L : Nat} {xs : Nat → Int32} (hX : gj_K (D, tq_cl, [(cI, .int), (cB, .byte), (cS, .short), (cZ, .boolean)]) X code "TypeLoomLaw" 4 11 460 600000 7302250) (hB : va_X b L xs X.1.2.2.2.2.1 X.1.2.2.2.2.1.heap ∧ b < X.1.2.2.2.2.1.heap.size ∧ ¬ X.2.1 b) (hL : L = 7) (hE : ∀ σ τ, gj_G (D, tq_cl, [(cI, .int), (cB, .byte), (cS, .short), (cZ, .boolean)]) X Qq (gf_w (tc_u ob cI) ob σ ++ gf_w (md_u om cI cB cS cZ) om τ) 155 1132377 854 [(3, .int 0), (2, .ref (om 0)), (1, .ref (ob 0)), (0, .ref b)] []) : gj_G (D, tq_cl, [(cI, .int), (cB, .byte), (cS, .short), (cZ, .boolean)]) X Qq (gf_w (tc_u ob cI) ob tc_0 ++ gf_w (md_u om cI cB cS cZ) om (md_0 fl)) 155 1132377 27 [(3, .int 0), (2, .ref (om 0)), (1, .ref (ob 0)), (0, .ref b)] [] := by
  refine gj_aload_n hX 3 28 dw_L_law_27 rfl rfl rfl ?_
  refine gj_iload_n hX 0 29 dw_L_law_28 rfl rfl rfl ?_
  refine gj_sld hX 0 30 hB nI_0.symm (by omega) (by omega) dw_L_law_29 rfl ?_
  refine gj_bipush hX 31 32 dw_L_law_30 (by decide) rfl ?_
  refine gj_iand hX 33 dw_L_law_32 rfl ?_
  exact law_sw hX hB hL hE _
set_option maxRecDepth 100000 in
set_option maxHeartbeats 4000000 in
theorem law_854 {D : va_G} {cI cB cS cZ : ClassId} {X : gx_X} {Qq : State → Prop} {ob om : Nat → Nat} {b L : Nat} {xs : Nat → Int32} (hX : gj_K (D, tq_cl, [(cI, .int), (cB, .byte), (cS, .short), (cZ, .boolean)]) X code "TypeLoomLaw" 4 11 460 600000 7302250) (hB : va_X b L xs X.1.2.2.2.2.1 X.1.2.2.2.2.1.heap ∧ b < X.1.2.2.2.2.1.heap.size ∧ ¬ X.2.1 b) (hend : ∀ (ws : va_W) (cn sn : Nat) (lv : List (Nat × Value)), cn ≤ 600000 → sn ≤ 7302250 → gj_G (D, tq_cl, [(cI, .int), (cB, .byte), (cS, .short), (cZ, .boolean)]) X Qq ws cn sn 861 lv [.int 1]) (hL : L = 7) (σ τ : gx_S) : gj_G (D, tq_cl, [(cI, .int), (cB, .byte), (cS, .short), (cZ, .boolean)]) X Qq (gf_w (tc_u ob cI) ob σ ++ gf_w (md_u om cI cB cS cZ) om τ) 155 1132377 854 [(3, .int 0), (2, .ref (om 0)), (1, .ref (ob 0)), (0, .ref b)] [] := by
  refine gj_iinc hX (q := 0) 7 [(3, .int 7), (2, .ref (om 0)), (1, .ref (ob 0)), (0, .ref b)] 857 dw_L_law_854 rfl (by decide) (by decide) rfl rfl ?_
  refine gj_goto hX 18 dw_L_law_857 (by decide) ?_
  refine law_head hX hB hend (Nat.le_of_ble_eq_true rfl) (Nat.le_of_ble_eq_true rfl) 0 3 rfl rfl (fun h => ?_)
  subst hL
  exact absurd lw_seven h
set_option maxRecDepth 100000 in
set_option maxHeartbeats 4000000 in
theorem law_18 {D : va_G} {cI cB cS cZ : ClassId} {X : gx_X} {Qq : State → Prop} {ob om : Nat → Nat} {fl : Nat → Int32} {b L : Nat} {xs : Nat → Int32} (hX : gj_K (D, tq_cl, [(cI, .int), (cB, .byte), (cS, .short), (cZ, .boolean)]) X code "TypeLoomLaw" 4 11 460 600000 7302250) (hB : va_X b L xs X.1.2.2.2.2.1 X.1.2.2.2.2.1.heap ∧ b < X.1.2.2.2.2.1.heap.size ∧ ¬ X.2.1 b) (hend : ∀ (ws : va_W) (cn sn : Nat) (lv : List (Nat × Value)), cn ≤ 600000 → sn ≤ 7302250 → gj_G (D, tq_cl, [(cI, .int), (cB, .byte), (cS, .short), (cZ, .boolean)]) X Qq ws cn sn 861 lv [.int 1]) (hL : L ≤ 7) : gj_G (D, tq_cl, [(cI, .int), (cB, .byte), (cS, .short), (cZ, .boolean)]) X Qq (gf_w (tc_u ob cI) ob tc_0 ++ gf_w (md_u om cI cB cS cZ) om (md_0 fl)) 155 1132377 18 [(3, .int 0), (2, .ref (om 0)), (1, .ref (ob 0)), (0, .ref b)] [] := by
  refine law_head hX hB hend (Nat.le_of_ble_eq_true rfl) (Nat.le_of_ble_eq_true rfl) 0 3 rfl rfl (fun hge => ?_)
  rcases Nat.lt_or_ge L 7 with q | q
  · exact absurd (lw_less L q) hge
  · have hL7 : L = 7 := Nat.le_antisymm hL q
    exact law_27 hX hB hL7 (fun σ τ => law_854 hX hB hend hL7 σ τ)
set_option maxRecDepth 100000 in
set_option maxHeartbeats 4000000 in
theorem law_15 {D : va_G} {cI cB cS cZ : ClassId} {X : gx_X} {Qq : State → Prop} {ob om : Nat → Nat} {fl : Nat → Int32} {b L : Nat} {xs : Nat → Int32} (hX : gj_K (D, tq_cl, [(cI, .int), (cB, .byte), (cS, .short), (cZ, .boolean)]) X code "TypeLoomLaw" 4 11 460 600000 7302250) (hB : va_X b L xs X.1.2.2.2.2.1 X.1.2.2.2.2.1.heap ∧ b < X.1.2.2.2.2.1.heap.size ∧ ¬ X.2.1 b) (hend : ∀ (ws : va_W) (cn sn : Nat) (lv : List (Nat × Value)), cn ≤ 600000 → sn ≤ 7302250 → gj_G (D, tq_cl, [(cI, .int), (cB, .byte), (cS, .short), (cZ, .boolean)]) X Qq ws cn sn 861 lv [.int 1]) (hL : L ≤ 7) : gj_G (D, tq_cl, [(cI, .int), (cB, .byte), (cS, .short), (cZ, .boolean)]) X Qq (gf_w (tc_u ob cI) ob tc_0 ++ gf_w (md_u om cI cB cS cZ) om (md_0 fl)) 155 1132377 15 [(1, .ref (ob 0)), (0, .ref b)] [.ref (om 0)] := by
  refine gj_astore_n hX [(2, .ref (om 0)), (1, .ref (ob 0)), (0, .ref b)] 16 dw_L_law_15 rfl (by decide) rfl rfl ?_
  refine gj_iconst hX 0 17 dw_L_law_16 (by decide) rfl ?_
  refine gj_istore_n hX [(3, .int 0), (2, .ref (om 0)), (1, .ref (ob 0)), (0, .ref b)] 18 dw_L_law_17 rfl (by decide) rfl rfl ?_
  exact law_18 hX hB hend hL
set_option maxRecDepth 100000 in
set_option maxHeartbeats 4000000 in
theorem law_8 {D : va_G} {cI cB cS cZ : ClassId} {X : gx_X} {Qq : State → Prop} {ob : Nat → Nat} {b L : Nat} {xs : Nat → Int32} (hX : gj_K (D, tq_cl, [(cI, .int), (cB, .byte), (cS, .short), (cZ, .boolean)]) X code "TypeLoomLaw" 4 11 460 600000 7302250) (hB : va_X b L xs X.1.2.2.2.2.1 X.1.2.2.2.2.1.heap ∧ b < X.1.2.2.2.2.1.heap.size ∧ ¬ X.2.1 b) (hend : ∀ (ws : va_W) (cn sn : Nat) (lv : List (Nat × Value)), cn ≤ 600000 → sn ≤ 7302250 → gj_G (D, tq_cl, [(cI, .int), (cB, .byte), (cS, .short), (cZ, .boolean)]) X Qq ws cn sn 861 lv [.int 1]) (hL : L ≤ 7) : gj_G (D, tq_cl, [(cI, .int), (cB, .byte), (cS, .short), (cZ, .boolean)]) X Qq (gf_w (tc_u ob cI) ob tc_0) 102 1682 8 [(1, .ref (ob 0)), (0, .ref b)] [] := by
  refine gj_new (ci := 9) hX tt_9 [.int 0, .null, .null, .int 0, .null, .null, .null, .null, .null, .null, .null, .null, .null, .int 0, .null, .null, .int 0, .int 0, .null, .null, .null, .null, .null, .int 0, .null, .null, .int 0, .null, .null, .int 0, .int 0, .null, .null, .null, .null, .int 0, .null, .null, .null, .null, .int 0, .null, .null, .int 0, .null, .null, .null, .null, .null, .null, .null, .null, .null, .null, .int 0, .null, .int 0, .null, .int 0, .null, .null, .int 0, .null, .null, .int 0, .null, .null, .null, .int 0, .int 0, .int 0, .int 0, .null] 11 rfl ti_9 tk_9 tdv_9 tw_898 tw_899 tw_79 (Nat.le_of_ble_eq_true rfl) (Nat.le_of_ble_eq_true rfl) dw_L_law_8 rfl (fun qM => ?_)
  refine gj_dup hX 12 dw_L_law_11 rfl rfl ?_
  refine gj_call (st := [.ref qM]) hX [] 15 (ci_M _) hy_M_init rfl tw_902 tw_900 tw_901 tw_79 ⟨(Nat.le_of_ble_eq_true rfl), (Nat.le_of_ble_eq_true rfl)⟩ (Nat.le_of_ble_eq_true rfl) (Nat.le_of_ble_eq_true rfl) (Nat.le_of_ble_eq_true rfl) dw_L_law_12 rfl rfl (fun w2 hw2 => ?_)
  obtain ⟨fl, om, he, hcm⟩ := cp_Mw hw2
  refine gj_subR (w' := gf_w (md_u om cI cB cS cZ) om (md_0 fl)) pl_M pl_Mn hcm ?_
  refine gj_cs (cn' := 155) (sn' := 1132377) rfl rfl ?_
  rw [← he]
  exact law_15 hX hB hend hL
set_option maxRecDepth 100000 in
set_option maxHeartbeats 4000000 in
theorem law_0 {D : va_G} {cI cB cS cZ : ClassId} {X : gx_X} {Qq : State → Prop} {b L : Nat} {xs : Nat → Int32} (hX : gj_K (D, tq_cl, [(cI, .int), (cB, .byte), (cS, .short), (cZ, .boolean)]) X code "TypeLoomLaw" 4 11 460 600000 7302250) (hB : va_X b L xs X.1.2.2.2.2.1 X.1.2.2.2.2.1.heap ∧ b < X.1.2.2.2.2.1.heap.size ∧ ¬ X.2.1 b) (hend : ∀ (ws : va_W) (cn sn : Nat) (lv : List (Nat × Value)), cn ≤ 600000 → sn ≤ 7302250 → gj_G (D, tq_cl, [(cI, .int), (cB, .byte), (cS, .short), (cZ, .boolean)]) X Qq ws cn sn 861 lv [.int 1]) (hL : L ≤ 7) : gj_G (D, tq_cl, [(cI, .int), (cB, .byte), (cS, .short), (cZ, .boolean)]) X Qq [] 0 0 0 [(0, .ref b)] [] := by
  refine gj_new (ci := 0) hX tt_0 [.null, .null, .null, .null, .null, .null, .null, .int 0] 3 rfl ti_0 tk_0 tdv_0 tw_83 tw_84 tw_70 (Nat.le_of_ble_eq_true rfl) (Nat.le_of_ble_eq_true rfl) dw_L_law_0 rfl (fun qT => ?_)
  refine gj_dup hX 4 dw_L_law_3 rfl rfl ?_
  refine gj_call (st := [.ref qT]) hX [] 7 (ci_T _) hy_T_init rfl tw_87 tw_85 tw_86 tw_70 ⟨(Nat.le_of_ble_eq_true rfl), (Nat.le_of_ble_eq_true rfl)⟩ (Nat.le_of_ble_eq_true rfl) (Nat.le_of_ble_eq_true rfl) (Nat.le_of_ble_eq_true rfl) dw_L_law_4 rfl rfl (fun w1 hw1 => ?_)
  obtain ⟨ob, he, hcv⟩ := cp_Tw hw1
  refine gj_subR (w' := gf_w (tc_u ob cI) ob tc_0) pl_T pl_Tn hcv ?_
  refine gj_nil ?_
  refine gj_cs (cn' := 102) (sn' := 1682) rfl rfl ?_
  rw [← he]
  refine gj_astore_n hX [(1, .ref (ob 0)), (0, .ref b)] 8 dw_L_law_7 rfl (by decide) rfl rfl ?_
  exact law_8 hX hB hend hL
set_option maxRecDepth 100000 in
set_option maxHeartbeats 4000000 in
/-- THE LAW, from its entry, for scripts of at most 7 ints -/
theorem law7 {p : Program} {e : Env} {s : State} {m : MethodId} {below : List Frame} {meth : Method} {c : Code} (l : Launch) {b L : Nat} {xs : Nat → Int32} (hL : L ≤ 7) (C0 : lw_At p s m meth c b L xs) : W p l e room_1 s m #[Value.ref b] below meth c s.heap [] 0 0 (lw_Z below #[Value.ref b] s) (entryFrame m ([Value.ref b] : List Value).toArray 4) := by
  obtain ⟨hx, hb, hr, hml, hown, hts, hX0, hbl, hlocks, -⟩ := id C0
  have hts' : ∀ w ∈ gx_T, w.before #[Value.ref b] s = true := fun w h => hts w (gx_sub w h)
  obtain ⟨D, cI, cB, cS, cZ, hK⟩ := lw_K hts'
  have hXK : gj_K (D, tq_cl, [(cI, .int), (cB, .byte), (cS, .short), (cZ, .boolean)]) ((p, l, e, room_1, s, m, #[Value.ref b], below, meth, c), (fun q : Nat => s.heap.size ≤ q), tc_0, true) code "TypeLoomLaw" 4 11 460 600000 7302250 := ⟨hx, hb, hml, hown, hts', trivial, hlocks, hK, fun _ h => h, Nat.le_refl _, Nat.le_refl _, Nat.le_refl _, Nat.le_refl _, trivial, fun w h => va_Nw.of (gi_Ztab w h) (hts w (gi_Zin w h))⟩
  have hBB : va_X b L xs s s.heap ∧ b < s.heap.size ∧ ¬ (s.heap.size ≤ b) := ⟨hX0, hbl, Nat.not_le.mpr hbl⟩
  have hP : va_P D tq_cl [] s.heap := fun k q h => by simp at h
  have hD : va_D (fun q : Nat => s.heap.size ≤ q) [] := ⟨fun i j p q h => by simp at h, fun k q h => by simp at h⟩
  have hl := lv_entry ([.ref b]) (n := 4) (Nat.le_of_ble_eq_true rfl)
  have G : gj_G (D, tq_cl, [(cI, .int), (cB, .byte), (cS, .short), (cZ, .boolean)]) ((p, l, e, room_1, s, m, #[Value.ref b], below, meth, c), (fun q : Nat => s.heap.size ≤ q), tc_0, true) (lw_Z below #[Value.ref b] s) [] 0 0 0 [(0, .ref b)] [] := law_0 hXK hBB (fun ws cn sn lv h1 h2 => gj_end hx hb hr hlocks h1 h2) hL
  rw [lg_entry_eq]
  exact G s.heap [] _ (by rw [hml]; exact hl) hP hD va_S.rf
