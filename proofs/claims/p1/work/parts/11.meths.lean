def kt_Constructors_add (σ : gx_S) (L1 : Int32) (L2 : Int32) : gx_R :=
  if (σ.1 0) < 2048 then
    gx_bd (tc_pt σ 0 ((σ.1 0)) L1) (fun σ1 _ =>
    gx_bd (tc_pt σ1 1 ((σ1.1 0)) L2) (fun σ3 _ =>
    gx_sb (gx_si σ3 0 ((((σ3.1 0)) + 1))) (fun σ5 =>
    some (σ5, (((σ5.1 0)) - 1)))))
  else
    some (σ, (-2))
set_option maxRecDepth 100000 in
set_option maxHeartbeats 4000000 in
theorem tl_Constructors_add {D : va_G} {ob : Nat → Nat} {cA : ClassId} {X : gx_X} (hX : gx_K (tc_V D ob cA) X prog_2_method_2_code "TypeLoom$Constructors" 3 1 22 (some .int)) (σ : gx_S) (L1 : Int32) (L2 : Int32) : gx_G (tc_V D ob cA) X (kt_Constructors_add σ L1 L2) σ 0 [(0, .ref (ob 1)), (1, .int L1), (2, .int L2)] [] := by
  unfold kt_Constructors_add
  refine gx_aload_n hX 0 1 dw_Constructors_add_0 rfl rfl rfl ?_
  refine tg_1 hX 2 4 (by decide) tw_113 rfl dw_Constructors_add_1 rfl ?_
  refine gx_sipush hX 2048 7 dw_Constructors_add_4 (by decide) rfl ?_
  refine gx_icmp_lt hX 13 10 dw_Constructors_add_7 (by decide) rfl (fun _ => ?_) (fun _ => ?_)
  · refine gx_aload_n hX 0 14 dw_Constructors_add_13 rfl rfl rfl ?_
    refine tg_1 hX 0 17 (by decide) tw_111 rfl dw_Constructors_add_14 rfl ?_
    refine gx_aload_n hX 0 18 dw_Constructors_add_17 rfl rfl rfl ?_
    refine tg_1 hX 2 21 (by decide) tw_113 rfl dw_Constructors_add_18 rfl ?_
    refine gx_iload_n hX 1 22 dw_Constructors_add_21 rfl rfl rfl ?_
    refine tr_put hX 0 25 (by decide) tw_483 ⟨Nat.le_of_ble_eq_true rfl, Nat.le_of_ble_eq_true rfl⟩ (Nat.le_of_ble_eq_true rfl) dw_Constructors_add_22 rfl (fun σ1 _ => ?_)
    refine gx_aload_n hX 0 26 dw_Constructors_add_25 rfl rfl rfl ?_
    refine tg_1 hX 1 29 (by decide) tw_112 rfl dw_Constructors_add_26 rfl ?_
    refine gx_aload_n hX 0 30 dw_Constructors_add_29 rfl rfl rfl ?_
    refine tg_1 hX 2 33 (by decide) tw_113 rfl dw_Constructors_add_30 rfl ?_
    refine gx_iload_n hX 2 34 dw_Constructors_add_33 rfl rfl rfl ?_
    refine tr_put hX 1 37 (by decide) tw_483 ⟨Nat.le_of_ble_eq_true rfl, Nat.le_of_ble_eq_true rfl⟩ (Nat.le_of_ble_eq_true rfl) dw_Constructors_add_34 rfl (fun σ3 _ => ?_)
    refine gx_aload_n hX 0 38 dw_Constructors_add_37 rfl rfl rfl ?_
    refine gx_dup hX 39 dw_Constructors_add_38 rfl rfl ?_
    refine tg_1 hX 2 42 (by decide) tw_113 rfl dw_Constructors_add_39 rfl ?_
    refine gx_iconst hX 1 43 dw_Constructors_add_42 (by decide) rfl ?_
    refine gx_iadd hX 44 dw_Constructors_add_43 rfl ?_
    refine tp_0 hX 47 tw_113 dw_Constructors_add_44 rfl (fun σ5 => ?_)
    refine gx_aload_n hX 0 48 dw_Constructors_add_47 rfl rfl rfl ?_
    refine tg_1 hX 2 51 (by decide) tw_113 rfl dw_Constructors_add_48 rfl ?_
    refine gx_iconst hX 1 52 dw_Constructors_add_51 (by decide) rfl ?_
    refine gx_isub hX 53 dw_Constructors_add_52 rfl ?_
    exact gx_ret hX dw_Constructors_add_53
  · refine gx_bipush hX (-2) 12 dw_Constructors_add_10 (by decide) rfl ?_
    exact gx_ret hX dw_Constructors_add_12
def my_Constructors_add : MethodName := ⟨"TypeLoom$Constructors", "add", "(II)I"⟩
theorem hy_Constructors_add : (my_Constructors_add.cls ≠ "java/lang/invoke/MethodHandle" ∧ my_Constructors_add.cls ≠ "java/lang/invoke/VarHandle") ∧ (parseMethodDescriptor my_Constructors_add.desc).map (fun d => d.parameters.length) = some 2 := by decide +kernel
theorem tm_Constructors_add {D : va_G} {ob : Nat → Nat} {cA : ClassId} (l : Launch) (σ : gx_S) (L1 : Int32) (L2 : Int32) : gx_C l (tc_V D ob cA) my_Constructors_add prog_2_method_2_code 3 (some .int) 1 22 [.ref (ob 1), .int L1, .int L2] σ (kt_Constructors_add σ L1 L2) := gx_met (by decide) rfl (Nat.le_of_ble_eq_true rfl) rfl (fun X _ hX => tl_Constructors_add hX σ L1 L2)
theorem tr_Constructors_add {D : va_G} {ob : Nat → Nat} {cA : ClassId} {X : gx_X} {cc : ByteArray} {own : String} {nL fr lo : Nat} {rt : Option FieldType} {σ : gx_S} {pc : Nat} {lv : List (Nat × Value)} {st : List Value} (hX : gx_K (tc_V D ob cA) X cc own nL fr lo rt) {idx : Nat} {L1 : Int32} {L2 : Int32} {k : gx_S → Int32 → gx_R} (n : Nat) (hlink : Cond.methodLink own idx ({ cls := "TypeLoom$Constructors", name := "add", desc := "(II)I" } : Jvm.MethodName) ∈ gx_T) (hroom : 1 + 1 ≤ fr ∧ 8 + (3 + 11) + 22 ≤ lo) (hst : (st.map fun v => v.category).sum ≤ 8) (hd : decode cc pc = .ok (.invokevirtual idx, 3)) (hn : pc + 3 = n) (kk : ∀ σ' r, gx_G (tc_V D ob cA) X (k σ' r) σ' n lv (.int r :: st)) : gx_G (tc_V D ob cA) X (gx_bd (kt_Constructors_add σ L1 L2) k) σ pc lv (.int L2 :: .int L1 :: .ref (ob 1) :: st) :=
  gx_callI hX [.int L1, .int L2] n rfl (tm_Constructors_add _ σ L1 L2) hy_Constructors_add tw_482 hlink tw_480 tw_481 tw_71 (gf_recv 1 (show 1 < 55 by decide) rfl rfl) hroom hst hd hn rfl (fun σ' r _ => kk σ' r)
def kt_Constructors_has (σ : gx_S) (L1 : Int32) : gx_R :=
  if L1 < 0 then
    gx_rz σ 0
  else
    if (σ.1 0) ≤ L1 then
      gx_rz σ 0
    else
      gx_rz σ 1
set_option maxRecDepth 100000 in
set_option maxHeartbeats 4000000 in
theorem tl_Constructors_has {D : va_G} {ob : Nat → Nat} {cA : ClassId} {X : gx_X} (hX : gx_K (tc_V D ob cA) X prog_2_method_3_code "TypeLoom$Constructors" 2 0 0 (some .boolean)) (σ : gx_S) (L1 : Int32) : gx_G (tc_V D ob cA) X (kt_Constructors_has σ L1) σ 0 [(0, .ref (ob 1)), (1, .int L1)] [] := by
  unfold kt_Constructors_has
  refine gx_iload_n hX 1 1 dw_Constructors_has_0 rfl rfl rfl ?_
  refine gx_if_lt hX 16 4 dw_Constructors_has_1 (by decide) rfl (fun _ => ?_) (fun _ => ?_)
  · refine gx_iconst hX 0 17 dw_Constructors_has_16 (by decide) rfl ?_
    exact gx_retz hX dw_Constructors_has_17
  · refine gx_iload_n hX 1 5 dw_Constructors_has_4 rfl rfl rfl ?_
    refine gx_aload_n hX 0 6 dw_Constructors_has_5 rfl rfl rfl ?_
    refine tg_1 hX 2 9 (by decide) tw_113 rfl dw_Constructors_has_6 rfl ?_
    refine gx_icmp_ge hX 16 12 dw_Constructors_has_9 (by decide) rfl (fun _ => ?_) (fun _ => ?_)
    · refine gx_iconst hX 0 17 dw_Constructors_has_16 (by decide) rfl ?_
      exact gx_retz hX dw_Constructors_has_17
    · refine gx_iconst hX 1 13 dw_Constructors_has_12 (by decide) rfl ?_
      refine gx_goto hX 17 dw_Constructors_has_13 (by decide) ?_
      exact gx_retz hX dw_Constructors_has_17
def my_Constructors_has : MethodName := ⟨"TypeLoom$Constructors", "has", "(I)Z"⟩
theorem hy_Constructors_has : (my_Constructors_has.cls ≠ "java/lang/invoke/MethodHandle" ∧ my_Constructors_has.cls ≠ "java/lang/invoke/VarHandle") ∧ (parseMethodDescriptor my_Constructors_has.desc).map (fun d => d.parameters.length) = some 1 := by decide +kernel
theorem tm_Constructors_has {D : va_G} {ob : Nat → Nat} {cA : ClassId} (l : Launch) (σ : gx_S) (L1 : Int32) : gx_C l (tc_V D ob cA) my_Constructors_has prog_2_method_3_code 2 (some .boolean) 0 0 [.ref (ob 1), .int L1] σ (kt_Constructors_has σ L1) := gx_met (by decide) rfl (Nat.le_of_ble_eq_true rfl) rfl (fun X _ hX => tl_Constructors_has hX σ L1)
theorem tr_Constructors_has {D : va_G} {ob : Nat → Nat} {cA : ClassId} {X : gx_X} {cc : ByteArray} {own : String} {nL fr lo : Nat} {rt : Option FieldType} {σ : gx_S} {pc : Nat} {lv : List (Nat × Value)} {st : List Value} (hX : gx_K (tc_V D ob cA) X cc own nL fr lo rt) {idx : Nat} {L1 : Int32} {k : gx_S → Int32 → gx_R} (n : Nat) (hlink : Cond.methodLink own idx ({ cls := "TypeLoom$Constructors", name := "has", desc := "(I)Z" } : Jvm.MethodName) ∈ gx_T) (hroom : 0 + 1 ≤ fr ∧ 8 + (2 + 11) + 0 ≤ lo) (hst : (st.map fun v => v.category).sum ≤ 8) (hd : decode cc pc = .ok (.invokevirtual idx, 3)) (hn : pc + 3 = n) (kk : ∀ σ' r, gx_G (tc_V D ob cA) X (k σ' r) σ' n lv (.int r :: st)) : gx_G (tc_V D ob cA) X (gx_bd (kt_Constructors_has σ L1) k) σ pc lv (.int L1 :: .ref (ob 1) :: st) :=
  gx_callI hX [.int L1] n rfl (tm_Constructors_has _ σ L1) hy_Constructors_has tw_540 hlink tw_538 tw_539 tw_71 (gf_recv 1 (show 1 < 55 by decide) rfl rfl) hroom hst hd hn rfl (fun σ' r _ => kk σ' r)
def kt_Constructors_mayBeSet (σ : gx_S) (L1 : Int32) (L2 : Int32) : gx_R :=
  gx_lp (α := gx_S → Int32 → Int32 → Int32 → gx_R) (fun _ _ _ _ => none) (fun again2 (σ1 : gx_S) (L1 : Int32) (L2 : Int32) (L3 : Int32) =>
    if 31 ≤ L3 then
    gx_rz σ1 1
  else
    gx_jn (fun (σ2 : gx_S) (L1 : Int32) (L2 : Int32) (L3 : Int32) (S0 : Int32) =>
      gx_jn (fun (σ3 : gx_S) (L1 : Int32) (L2 : Int32) (L3 : Int32) =>
        gx_bv (L3 + 1) (fun x4 =>
        again2 σ3 L1 L2 x4)) (fun j64 =>
      if S0 = 0 then
        j64 σ2 L1 L2 L3
      else
        gx_bd (kt_Constructors_has σ2 L3) (fun σ5 r6 =>
        if r6 = 0 then
          gx_rz σ5 0
        else
          gx_bv (tc_at σ5 0 L3) (fun r7 =>
          if r7 = 0 then
            if L2 = 0 then
              j64 σ5 L1 L2 L3
            else
              gx_bv (tc_at σ5 1 L3) (fun r8 =>
              if r8 = 0 then
                gx_rz σ5 0
              else
                j64 σ5 L1 L2 L3)
          else
            gx_rz σ5 0)))) (fun j21 =>
    if (((L1 >>> (L3 &&& 31))) &&& 1) = 0 then
      j21 σ1 L1 L2 L3 0
    else
      j21 σ1 L1 L2 L3 1)) gx_F σ L1 L2 0
set_option maxRecDepth 100000 in
set_option maxHeartbeats 4000000 in
theorem tl_Constructors_mayBeSet {D : va_G} {ob : Nat → Nat} {cA : ClassId} {X : gx_X} (hX : gx_K (tc_V D ob cA) X prog_2_method_6_code "TypeLoom$Constructors" 5 1 21 (some .boolean)) (σ : gx_S) (L1 : Int32) (L2 : Int32) : gx_G (tc_V D ob cA) X (kt_Constructors_mayBeSet σ L1 L2) σ 0 [(0, .ref (ob 1)), (1, .int L1), (2, .int L2)] [] := by
  unfold kt_Constructors_mayBeSet
  refine gx_iconst hX 0 1 dw_Constructors_mayBeSet_0 (by decide) rfl ?_
  refine gx_istore_n hX [(3, .int 0), (0, .ref (ob 1)), (1, .int L1), (2, .int L2)] 2 dw_Constructors_mayBeSet_1 rfl (by decide) rfl rfl ?_
  refine gx_pick (lv' := [(0, .ref (ob 1)), (1, .int L1), (2, .int L2), (3, .int 0)]) hX [1, 2, 3, 0] rfl (gx_lpI (fun (f : gx_S → Int32 → Int32 → Int32 → gx_R) => ∀ (σ1 : gx_S) (L1 : Int32) (L2 : Int32) (L3 : Int32), gx_G (tc_V D ob cA) X (f σ1 L1 L2 L3) σ1 2 [(0, .ref (ob 1)), (1, .int L1), (2, .int L2), (3, .int L3)] []) (fun _ _ _ _ => gx_none) (fun again2 ih2 σ1 L1 L2 L3 => ?_) _ σ L1 L2 0)
  refine gx_iload_n hX 3 3 dw_Constructors_mayBeSet_2 rfl rfl rfl ?_
  refine gx_bipush hX 31 5 dw_Constructors_mayBeSet_3 (by decide) rfl ?_
  refine gx_icmp_ge hX 70 8 dw_Constructors_mayBeSet_5 (by decide) rfl (fun _ => ?_) (fun _ => ?_)
  · refine gx_iconst hX 1 71 dw_Constructors_mayBeSet_70 (by decide) rfl ?_
    exact gx_retz hX dw_Constructors_mayBeSet_71
  · refine gx_iload_n hX 1 9 dw_Constructors_mayBeSet_8 rfl rfl rfl ?_
    refine gx_iload_n hX 3 10 dw_Constructors_mayBeSet_9 rfl rfl rfl ?_
    refine gx_ishr hX 11 dw_Constructors_mayBeSet_10 rfl ?_
    refine gx_iconst hX 1 12 dw_Constructors_mayBeSet_11 (by decide) rfl ?_
    refine gx_iand hX 13 dw_Constructors_mayBeSet_12 rfl ?_
    refine gx_jnI (fun (j : gx_S → Int32 → Int32 → Int32 → Int32 → gx_R) => ∀ (σ2 : gx_S) (L1 : Int32) (L2 : Int32) (L3 : Int32) (S0 : Int32), gx_G (tc_V D ob cA) X (j σ2 L1 L2 L3 S0) σ2 21 [(0, .ref (ob 1)), (1, .int L1), (2, .int L2), (3, .int L3)] [.int S0]) (fun σ2 L1 L2 L3 S0 => ?_) (fun j21 h21 => ?_)
    · refine gx_istore hX [(4, .int S0), (0, .ref (ob 1)), (1, .int L1), (2, .int L2), (3, .int L3)] 23 dw_Constructors_mayBeSet_21 (by decide) rfl rfl ?_
      refine gx_iload hX 0 25 dw_Constructors_mayBeSet_23 rfl rfl ?_
      refine gx_jnI (fun (j : gx_S → Int32 → Int32 → Int32 → gx_R) => ∀ (σ3 : gx_S) (L1 : Int32) (L2 : Int32) (L3 : Int32), gx_G (tc_V D ob cA) X (j σ3 L1 L2 L3) σ3 64 [(0, .ref (ob 1)), (1, .int L1), (2, .int L2), (3, .int L3)] []) (fun σ3 L1 L2 L3 => ?_) (fun j64 h64 => ?_)
      · refine gx_iincN hX (q := 3) (fun x4 => [(3, .int x4), (0, .ref (ob 1)), (1, .int L1), (2, .int L2)]) 67 dw_Constructors_mayBeSet_64 rfl rfl (by decide) (fun _ => rfl) rfl (fun x4 => ?_)
        refine gx_goto hX 2 dw_Constructors_mayBeSet_67 (by decide) ?_
        exact gx_pick (lv' := [(0, .ref (ob 1)), (1, .int L1), (2, .int L2), (3, .int x4)]) hX [1, 2, 3, 0] rfl (ih2 σ3 L1 L2 x4)
      refine gx_if_eq hX 64 28 dw_Constructors_mayBeSet_25 (by decide) rfl (fun _ => ?_) (fun _ => ?_)
      · exact gx_pick (lv' := [(0, .ref (ob 1)), (1, .int L1), (2, .int L2), (3, .int L3)]) hX [1, 2, 3, 4] rfl (h64 σ2 L1 L2 L3)
      · refine gx_aload_n hX 1 29 dw_Constructors_mayBeSet_28 rfl rfl rfl ?_
        refine gx_iload_n hX 4 30 dw_Constructors_mayBeSet_29 rfl rfl rfl ?_
        refine tr_Constructors_has hX 33 tw_586 ⟨Nat.le_of_ble_eq_true rfl, Nat.le_of_ble_eq_true rfl⟩ (Nat.le_of_ble_eq_true rfl) dw_Constructors_mayBeSet_30 rfl (fun σ5 r6 => ?_)
        refine gx_if_eq hX 62 36 dw_Constructors_mayBeSet_33 (by decide) rfl (fun _ => ?_) (fun _ => ?_)
        · refine gx_iconst hX 0 63 dw_Constructors_mayBeSet_62 (by decide) rfl ?_
          exact gx_retz hX dw_Constructors_mayBeSet_63
        · refine gx_aload_n hX 1 37 dw_Constructors_mayBeSet_36 rfl rfl rfl ?_
          refine tg_1 hX 0 40 (by decide) tw_111 rfl dw_Constructors_mayBeSet_37 rfl ?_
          refine gx_iload_n hX 4 41 dw_Constructors_mayBeSet_40 rfl rfl rfl ?_
          refine tr_at hX 0 44 (by decide) tw_545 ⟨Nat.le_of_ble_eq_true rfl, Nat.le_of_ble_eq_true rfl⟩ (Nat.le_of_ble_eq_true rfl) dw_Constructors_mayBeSet_41 rfl (fun r7 => ?_)
          refine gx_if_ne hX 62 47 dw_Constructors_mayBeSet_44 (by decide) rfl (fun _ => ?_) (fun _ => ?_)
          · refine gx_iconst hX 0 63 dw_Constructors_mayBeSet_62 (by decide) rfl ?_
            exact gx_retz hX dw_Constructors_mayBeSet_63
          · refine gx_iload_n hX 3 48 dw_Constructors_mayBeSet_47 rfl rfl rfl ?_
            refine gx_if_eq hX 64 51 dw_Constructors_mayBeSet_48 (by decide) rfl (fun _ => ?_) (fun _ => ?_)
            · exact gx_pick (lv' := [(0, .ref (ob 1)), (1, .int L1), (2, .int L2), (3, .int L3)]) hX [1, 2, 3, 4] rfl (h64 σ5 L1 L2 L3)
            · refine gx_aload_n hX 1 52 dw_Constructors_mayBeSet_51 rfl rfl rfl ?_
              refine tg_1 hX 1 55 (by decide) tw_112 rfl dw_Constructors_mayBeSet_52 rfl ?_
              refine gx_iload_n hX 4 56 dw_Constructors_mayBeSet_55 rfl rfl rfl ?_
              refine tr_at hX 1 59 (by decide) tw_545 ⟨Nat.le_of_ble_eq_true rfl, Nat.le_of_ble_eq_true rfl⟩ (Nat.le_of_ble_eq_true rfl) dw_Constructors_mayBeSet_56 rfl (fun r8 => ?_)
              refine gx_if_ne hX 64 62 dw_Constructors_mayBeSet_59 (by decide) rfl (fun _ => ?_) (fun _ => ?_)
              · exact gx_pick (lv' := [(0, .ref (ob 1)), (1, .int L1), (2, .int L2), (3, .int L3)]) hX [1, 2, 3, 4] rfl (h64 σ5 L1 L2 L3)
              · refine gx_iconst hX 0 63 dw_Constructors_mayBeSet_62 (by decide) rfl ?_
                exact gx_retz hX dw_Constructors_mayBeSet_63
    refine gx_if_eq hX 20 16 dw_Constructors_mayBeSet_13 (by decide) rfl (fun _ => ?_) (fun _ => ?_)
    · refine gx_iconst hX 0 21 dw_Constructors_mayBeSet_20 (by decide) rfl ?_
      exact gx_pick (lv' := [(0, .ref (ob 1)), (1, .int L1), (2, .int L2), (3, .int L3)]) hX [0, 1, 2, 3] rfl (h21 σ1 L1 L2 L3 0)
    · refine gx_iconst hX 1 17 dw_Constructors_mayBeSet_16 (by decide) rfl ?_
      refine gx_goto hX 21 dw_Constructors_mayBeSet_17 (by decide) ?_
      exact gx_pick (lv' := [(0, .ref (ob 1)), (1, .int L1), (2, .int L2), (3, .int L3)]) hX [0, 1, 2, 3] rfl (h21 σ1 L1 L2 L3 1)
def my_Constructors_mayBeSet : MethodName := ⟨"TypeLoom$Constructors", "mayBeSet", "(IZ)Z"⟩
theorem hy_Constructors_mayBeSet : (my_Constructors_mayBeSet.cls ≠ "java/lang/invoke/MethodHandle" ∧ my_Constructors_mayBeSet.cls ≠ "java/lang/invoke/VarHandle") ∧ (parseMethodDescriptor my_Constructors_mayBeSet.desc).map (fun d => d.parameters.length) = some 2 := by decide +kernel
theorem tm_Constructors_mayBeSet {D : va_G} {ob : Nat → Nat} {cA : ClassId} (l : Launch) (σ : gx_S) (L1 : Int32) (L2 : Int32) : gx_C l (tc_V D ob cA) my_Constructors_mayBeSet prog_2_method_6_code 5 (some .boolean) 1 21 [.ref (ob 1), .int L1, .int L2] σ (kt_Constructors_mayBeSet σ L1 L2) := gx_met (by decide) rfl (Nat.le_of_ble_eq_true rfl) rfl (fun X _ hX => tl_Constructors_mayBeSet hX σ L1 L2)
theorem tr_Constructors_mayBeSet {D : va_G} {ob : Nat → Nat} {cA : ClassId} {X : gx_X} {cc : ByteArray} {own : String} {nL fr lo : Nat} {rt : Option FieldType} {σ : gx_S} {pc : Nat} {lv : List (Nat × Value)} {st : List Value} (hX : gx_K (tc_V D ob cA) X cc own nL fr lo rt) {idx : Nat} {L1 : Int32} {L2 : Int32} {k : gx_S → Int32 → gx_R} (n : Nat) (hlink : Cond.methodLink own idx ({ cls := "TypeLoom$Constructors", name := "mayBeSet", desc := "(IZ)Z" } : Jvm.MethodName) ∈ gx_T) (hroom : 1 + 1 ≤ fr ∧ 8 + (5 + 11) + 21 ≤ lo) (hst : (st.map fun v => v.category).sum ≤ 8) (hd : decode cc pc = .ok (.invokevirtual idx, 3)) (hn : pc + 3 = n) (kk : ∀ σ' r, gx_G (tc_V D ob cA) X (k σ' r) σ' n lv (.int r :: st)) : gx_G (tc_V D ob cA) X (gx_bd (kt_Constructors_mayBeSet σ L1 L2) k) σ pc lv (.int L2 :: .int L1 :: .ref (ob 1) :: st) :=
  gx_callI hX [.int L1, .int L2] n rfl (tm_Constructors_mayBeSet _ σ L1 L2) hy_Constructors_mayBeSet tw_585 hlink tw_583 tw_584 tw_71 (gf_recv 1 (show 1 < 55 by decide) rfl rfl) hroom hst hd hn rfl (fun σ' r _ => kk σ' r)
def kt_Pushed_drop (σ : gx_S)  : gx_R :=
  gx_sb (gx_si σ 1 0) (fun σ1 =>
  gx_sb (gx_si σ1 2 0) (fun σ2 =>
  some (σ2, 0)))
set_option maxRecDepth 100000 in
set_option maxHeartbeats 4000000 in
theorem tl_Pushed_drop {D : va_G} {ob : Nat → Nat} {cA : ClassId} {X : gx_X} (hX : gx_K (tc_V D ob cA) X prog_4_method_4_code "TypeLoom$Pushed" 1 0 0 none) (σ : gx_S)  : gx_G (tc_V D ob cA) X (kt_Pushed_drop σ ) σ 0 [(0, .ref (ob 2))] [] := by
  unfold kt_Pushed_drop
  refine gx_aload_n hX 0 1 dw_Pushed_drop_0 rfl rfl rfl ?_
  refine gx_iconst hX 0 2 dw_Pushed_drop_1 (by decide) rfl ?_
  refine tp_1 hX 5 tw_134 dw_Pushed_drop_2 rfl (fun σ1 => ?_)
  refine gx_aload_n hX 0 6 dw_Pushed_drop_5 rfl rfl rfl ?_
  refine gx_iconst hX 0 7 dw_Pushed_drop_6 (by decide) rfl ?_
  refine tp_2 hX 10 tw_136 dw_Pushed_drop_7 rfl (fun σ2 => ?_)
  exact gx_retv hX dw_Pushed_drop_10
def my_Pushed_drop : MethodName := ⟨"TypeLoom$Pushed", "drop", "()V"⟩
theorem hy_Pushed_drop : (my_Pushed_drop.cls ≠ "java/lang/invoke/MethodHandle" ∧ my_Pushed_drop.cls ≠ "java/lang/invoke/VarHandle") ∧ (parseMethodDescriptor my_Pushed_drop.desc).map (fun d => d.parameters.length) = some 0 := by decide +kernel
theorem tm_Pushed_drop {D : va_G} {ob : Nat → Nat} {cA : ClassId} (l : Launch) (σ : gx_S)  : gx_C l (tc_V D ob cA) my_Pushed_drop prog_4_method_4_code 1 none 0 0 [.ref (ob 2)] σ (kt_Pushed_drop σ ) := gx_met (by decide) rfl (Nat.le_of_ble_eq_true rfl) rfl (fun X _ hX => tl_Pushed_drop hX σ )
theorem tr_Pushed_drop {D : va_G} {ob : Nat → Nat} {cA : ClassId} {X : gx_X} {cc : ByteArray} {own : String} {nL fr lo : Nat} {rt : Option FieldType} {σ : gx_S} {pc : Nat} {lv : List (Nat × Value)} {st : List Value} (hX : gx_K (tc_V D ob cA) X cc own nL fr lo rt) {idx : Nat}  {k : gx_S → Int32 → gx_R} (n : Nat) (hlink : Cond.methodLink own idx ({ cls := "TypeLoom$Pushed", name := "drop", desc := "()V" } : Jvm.MethodName) ∈ gx_T) (hroom : 0 + 1 ≤ fr ∧ 8 + (1 + 11) + 0 ≤ lo) (hst : (st.map fun v => v.category).sum ≤ 8) (hd : decode cc pc = .ok (.invokevirtual idx, 3)) (hn : pc + 3 = n) (kk : ∀ σ' r, gx_G (tc_V D ob cA) X (k σ' r) σ' n lv (st)) : gx_G (tc_V D ob cA) X (gx_bd (kt_Pushed_drop σ ) k) σ pc lv (.ref (ob 2) :: st) :=
  gx_callW hX [] n (tm_Pushed_drop _ σ ) hy_Pushed_drop tw_564 hlink tw_562 tw_563 tw_73 (gf_recv 2 (show 2 < 55 by decide) rfl rfl) hroom hst hd hn rfl (fun σ' r _ => kk σ' r)
def kt_Web_isType (σ : gx_S) (L1 : Int32) : gx_R :=
  if L1 < 0 then
    gx_rz σ 0
  else
    if (σ.1 5) ≤ L1 then
      gx_rz σ 0
    else
      gx_rz σ 1
set_option maxRecDepth 100000 in
set_option maxHeartbeats 4000000 in
theorem tl_Web_isType {D : va_G} {ob : Nat → Nat} {cA : ClassId} {X : gx_X} (hX : gx_K (tc_V D ob cA) X prog_9_method_3_code "TypeLoom$Web" 2 0 0 (some .boolean)) (σ : gx_S) (L1 : Int32) : gx_G (tc_V D ob cA) X (kt_Web_isType σ L1) σ 0 [(0, .ref (ob 3)), (1, .int L1)] [] := by
  unfold kt_Web_isType
  refine gx_iload_n hX 1 1 dw_Web_isType_0 rfl rfl rfl ?_
  refine gx_if_lt hX 16 4 dw_Web_isType_1 (by decide) rfl (fun _ => ?_) (fun _ => ?_)
  · refine gx_iconst hX 0 17 dw_Web_isType_16 (by decide) rfl ?_
    exact gx_retz hX dw_Web_isType_17
  · refine gx_iload_n hX 1 5 dw_Web_isType_4 rfl rfl rfl ?_
    refine gx_aload_n hX 0 6 dw_Web_isType_5 rfl rfl rfl ?_
    refine tg_3 hX 14 9 (by decide) tw_203 rfl dw_Web_isType_6 rfl ?_
    refine gx_icmp_ge hX 16 12 dw_Web_isType_9 (by decide) rfl (fun _ => ?_) (fun _ => ?_)
    · refine gx_iconst hX 0 17 dw_Web_isType_16 (by decide) rfl ?_
      exact gx_retz hX dw_Web_isType_17
    · refine gx_iconst hX 1 13 dw_Web_isType_12 (by decide) rfl ?_
      refine gx_goto hX 17 dw_Web_isType_13 (by decide) ?_
      exact gx_retz hX dw_Web_isType_17
def my_Web_isType : MethodName := ⟨"TypeLoom$Web", "isType", "(I)Z"⟩
theorem hy_Web_isType : (my_Web_isType.cls ≠ "java/lang/invoke/MethodHandle" ∧ my_Web_isType.cls ≠ "java/lang/invoke/VarHandle") ∧ (parseMethodDescriptor my_Web_isType.desc).map (fun d => d.parameters.length) = some 1 := by decide +kernel
theorem tm_Web_isType {D : va_G} {ob : Nat → Nat} {cA : ClassId} (l : Launch) (σ : gx_S) (L1 : Int32) : gx_C l (tc_V D ob cA) my_Web_isType prog_9_method_3_code 2 (some .boolean) 0 0 [.ref (ob 3), .int L1] σ (kt_Web_isType σ L1) := gx_met (by decide) rfl (Nat.le_of_ble_eq_true rfl) rfl (fun X _ hX => tl_Web_isType hX σ L1)
theorem tr_Web_isType {D : va_G} {ob : Nat → Nat} {cA : ClassId} {X : gx_X} {cc : ByteArray} {own : String} {nL fr lo : Nat} {rt : Option FieldType} {σ : gx_S} {pc : Nat} {lv : List (Nat × Value)} {st : List Value} (hX : gx_K (tc_V D ob cA) X cc own nL fr lo rt) {idx : Nat} {L1 : Int32} {k : gx_S → Int32 → gx_R} (n : Nat) (hlink : Cond.methodLink own idx ({ cls := "TypeLoom$Web", name := "isType", desc := "(I)Z" } : Jvm.MethodName) ∈ gx_T) (hroom : 0 + 1 ≤ fr ∧ 8 + (2 + 11) + 0 ≤ lo) (hst : (st.map fun v => v.category).sum ≤ 8) (hd : decode cc pc = .ok (.invokevirtual idx, 3)) (hn : pc + 3 = n) (kk : ∀ σ' r, gx_G (tc_V D ob cA) X (k σ' r) σ' n lv (.int r :: st)) : gx_G (tc_V D ob cA) X (gx_bd (kt_Web_isType σ L1) k) σ pc lv (.int L1 :: .ref (ob 3) :: st) :=
  gx_callI hX [.int L1] n rfl (tm_Web_isType _ σ L1) hy_Web_isType tw_514 hlink tw_512 tw_513 tw_74 (gf_recv 3 (show 3 < 55 by decide) rfl rfl) hroom hst hd hn rfl (fun σ' r _ => kk σ' r)
def kt_Web_hasRoom (σ : gx_S) (L1 : Int32) (L2 : Int32) : gx_R :=
  if 24576 < (((σ.1 5)) + L1) then
    gx_rz σ 0
  else
    if 65536 < (((σ.1 6)) + L2) then
      gx_rz σ 0
    else
      gx_rz σ 1
set_option maxRecDepth 100000 in
set_option maxHeartbeats 4000000 in
theorem tl_Web_hasRoom {D : va_G} {ob : Nat → Nat} {cA : ClassId} {X : gx_X} (hX : gx_K (tc_V D ob cA) X prog_9_method_5_code "TypeLoom$Web" 3 0 0 (some .boolean)) (σ : gx_S) (L1 : Int32) (L2 : Int32) : gx_G (tc_V D ob cA) X (kt_Web_hasRoom σ L1 L2) σ 0 [(0, .ref (ob 3)), (1, .int L1), (2, .int L2)] [] := by
  unfold kt_Web_hasRoom
  refine gx_aload_n hX 0 1 dw_Web_hasRoom_0 rfl rfl rfl ?_
  refine tg_3 hX 14 4 (by decide) tw_203 rfl dw_Web_hasRoom_1 rfl ?_
  refine gx_iload_n hX 1 5 dw_Web_hasRoom_4 rfl rfl rfl ?_
  refine gx_iadd hX 6 dw_Web_hasRoom_5 rfl ?_
  refine gx_sipush hX 24576 9 dw_Web_hasRoom_6 (by decide) rfl ?_
  refine gx_icmp_gt hX 27 12 dw_Web_hasRoom_9 (by decide) rfl (fun _ => ?_) (fun _ => ?_)
  · refine gx_iconst hX 0 28 dw_Web_hasRoom_27 (by decide) rfl ?_
    exact gx_retz hX dw_Web_hasRoom_28
  · refine gx_aload_n hX 0 13 dw_Web_hasRoom_12 rfl rfl rfl ?_
    refine tg_3 hX 15 16 (by decide) tw_205 rfl dw_Web_hasRoom_13 rfl ?_
    refine gx_iload_n hX 2 17 dw_Web_hasRoom_16 rfl rfl rfl ?_
    refine gx_iadd hX 18 dw_Web_hasRoom_17 rfl ?_
    refine gx_ldc hX 65536 20 dw_Web_hasRoom_18 tw_550 rfl ?_
    refine gx_icmp_gt hX 27 23 dw_Web_hasRoom_20 (by decide) rfl (fun _ => ?_) (fun _ => ?_)
    · refine gx_iconst hX 0 28 dw_Web_hasRoom_27 (by decide) rfl ?_
      exact gx_retz hX dw_Web_hasRoom_28
    · refine gx_iconst hX 1 24 dw_Web_hasRoom_23 (by decide) rfl ?_
      refine gx_goto hX 28 dw_Web_hasRoom_24 (by decide) ?_
      exact gx_retz hX dw_Web_hasRoom_28
def my_Web_hasRoom : MethodName := ⟨"TypeLoom$Web", "hasRoom", "(II)Z"⟩
theorem hy_Web_hasRoom : (my_Web_hasRoom.cls ≠ "java/lang/invoke/MethodHandle" ∧ my_Web_hasRoom.cls ≠ "java/lang/invoke/VarHandle") ∧ (parseMethodDescriptor my_Web_hasRoom.desc).map (fun d => d.parameters.length) = some 2 := by decide +kernel
theorem tm_Web_hasRoom {D : va_G} {ob : Nat → Nat} {cA : ClassId} (l : Launch) (σ : gx_S) (L1 : Int32) (L2 : Int32) : gx_C l (tc_V D ob cA) my_Web_hasRoom prog_9_method_5_code 3 (some .boolean) 0 0 [.ref (ob 3), .int L1, .int L2] σ (kt_Web_hasRoom σ L1 L2) := gx_met (by decide) rfl (Nat.le_of_ble_eq_true rfl) rfl (fun X _ hX => tl_Web_hasRoom hX σ L1 L2)
theorem tr_Web_hasRoom {D : va_G} {ob : Nat → Nat} {cA : ClassId} {X : gx_X} {cc : ByteArray} {own : String} {nL fr lo : Nat} {rt : Option FieldType} {σ : gx_S} {pc : Nat} {lv : List (Nat × Value)} {st : List Value} (hX : gx_K (tc_V D ob cA) X cc own nL fr lo rt) {idx : Nat} {L1 : Int32} {L2 : Int32} {k : gx_S → Int32 → gx_R} (n : Nat) (hlink : Cond.methodLink own idx ({ cls := "TypeLoom$Web", name := "hasRoom", desc := "(II)Z" } : Jvm.MethodName) ∈ gx_T) (hroom : 0 + 1 ≤ fr ∧ 8 + (3 + 11) + 0 ≤ lo) (hst : (st.map fun v => v.category).sum ≤ 8) (hd : decode cc pc = .ok (.invokevirtual idx, 3)) (hn : pc + 3 = n) (kk : ∀ σ' r, gx_G (tc_V D ob cA) X (k σ' r) σ' n lv (.int r :: st)) : gx_G (tc_V D ob cA) X (gx_bd (kt_Web_hasRoom σ L1 L2) k) σ pc lv (.int L2 :: .int L1 :: .ref (ob 3) :: st) :=
  gx_callI hX [.int L1, .int L2] n rfl (tm_Web_hasRoom _ σ L1 L2) hy_Web_hasRoom tw_549 hlink tw_547 tw_548 tw_74 (gf_recv 3 (show 3 < 55 by decide) rfl rfl) hroom hst hd hn rfl (fun σ' r _ => kk σ' r)
def kt_Web_addNode (σ : gx_S) (L1 : Int32) (L2 : Int32) (L3 : Int32) (L4 : Int32) : gx_R :=
  gx_bv ((σ.1 3)) (fun x1 =>
  gx_bd (tc_pt σ 4 x1 L1) (fun σ2 _ =>
  gx_bd (tc_pt σ2 5 x1 L2) (fun σ4 _ =>
  gx_bd (tc_pt σ4 6 x1 L3) (fun σ6 _ =>
  gx_bd (tc_pt σ6 7 x1 L4) (fun σ8 _ =>
  gx_bd (tc_pt σ8 8 x1 ((σ8.1 4))) (fun σ10 _ =>
  gx_bd (tc_pt σ10 9 x1 0) (fun σ12 _ =>
  gx_bd (tc_pt σ12 10 x1 (-1)) (fun σ14 _ =>
  gx_bd (tc_pt σ14 11 x1 x1) (fun σ16 _ =>
  gx_bd (tc_pt σ16 12 x1 1) (fun σ18 _ =>
  gx_sb (gx_si σ18 3 ((((σ18.1 3)) + 1))) (fun σ20 =>
  some (σ20, x1))))))))))))
set_option maxRecDepth 100000 in
set_option maxHeartbeats 4000000 in
theorem tl_Web_addNode {D : va_G} {ob : Nat → Nat} {cA : ClassId} {X : gx_X} (hX : gx_K (tc_V D ob cA) X prog_9_method_6_code "TypeLoom$Web" 6 1 22 (some .int)) (σ : gx_S) (L1 : Int32) (L2 : Int32) (L3 : Int32) (L4 : Int32) : gx_G (tc_V D ob cA) X (kt_Web_addNode σ L1 L2 L3 L4) σ 0 [(0, .ref (ob 3)), (1, .int L1), (2, .int L2), (3, .int L3), (4, .int L4)] [] := by
  unfold kt_Web_addNode
  refine gx_aload_n hX 0 1 dw_Web_addNode_0 rfl rfl rfl ?_
  refine tg_3 hX 12 4 (by decide) tw_199 rfl dw_Web_addNode_1 rfl ?_
  refine gx_bvN (fun x1 => ?_)
  refine gx_istore hX [(5, .int x1), (0, .ref (ob 3)), (1, .int L1), (2, .int L2), (3, .int L3), (4, .int L4)] 6 dw_Web_addNode_4 (by decide) rfl rfl ?_
  refine gx_aload_n hX 1 7 dw_Web_addNode_6 rfl rfl rfl ?_
  refine tg_3 hX 0 10 (by decide) tw_156 rfl dw_Web_addNode_7 rfl ?_
  refine gx_iload hX 0 12 dw_Web_addNode_10 rfl rfl ?_
  refine gx_iload_n hX 2 13 dw_Web_addNode_12 rfl rfl rfl ?_
  refine tr_put hX 4 16 (by decide) tw_555 ⟨Nat.le_of_ble_eq_true rfl, Nat.le_of_ble_eq_true rfl⟩ (Nat.le_of_ble_eq_true rfl) dw_Web_addNode_13 rfl (fun σ2 _ => ?_)
  refine gx_aload_n hX 1 17 dw_Web_addNode_16 rfl rfl rfl ?_
  refine tg_3 hX 1 20 (by decide) tw_162 rfl dw_Web_addNode_17 rfl ?_
  refine gx_iload hX 0 22 dw_Web_addNode_20 rfl rfl ?_
  refine gx_iload_n hX 3 23 dw_Web_addNode_22 rfl rfl rfl ?_
  refine tr_put hX 5 26 (by decide) tw_555 ⟨Nat.le_of_ble_eq_true rfl, Nat.le_of_ble_eq_true rfl⟩ (Nat.le_of_ble_eq_true rfl) dw_Web_addNode_23 rfl (fun σ4 _ => ?_)
  refine gx_aload_n hX 1 27 dw_Web_addNode_26 rfl rfl rfl ?_
  refine tg_3 hX 2 30 (by decide) tw_168 rfl dw_Web_addNode_27 rfl ?_
  refine gx_iload hX 0 32 dw_Web_addNode_30 rfl rfl ?_
  refine gx_iload_n hX 4 33 dw_Web_addNode_32 rfl rfl rfl ?_
  refine tr_put hX 6 36 (by decide) tw_555 ⟨Nat.le_of_ble_eq_true rfl, Nat.le_of_ble_eq_true rfl⟩ (Nat.le_of_ble_eq_true rfl) dw_Web_addNode_33 rfl (fun σ6 _ => ?_)
  refine gx_aload_n hX 1 37 dw_Web_addNode_36 rfl rfl rfl ?_
  refine tg_3 hX 3 40 (by decide) tw_172 rfl dw_Web_addNode_37 rfl ?_
  refine gx_iload hX 0 42 dw_Web_addNode_40 rfl rfl ?_
  refine gx_iload hX 5 44 dw_Web_addNode_42 rfl rfl ?_
  refine tr_put hX 7 47 (by decide) tw_555 ⟨Nat.le_of_ble_eq_true rfl, Nat.le_of_ble_eq_true rfl⟩ (Nat.le_of_ble_eq_true rfl) dw_Web_addNode_44 rfl (fun σ8 _ => ?_)
  refine gx_aload_n hX 1 48 dw_Web_addNode_47 rfl rfl rfl ?_
  refine tg_3 hX 4 51 (by decide) tw_176 rfl dw_Web_addNode_48 rfl ?_
  refine gx_iload hX 0 53 dw_Web_addNode_51 rfl rfl ?_
  refine gx_aload_n hX 1 54 dw_Web_addNode_53 rfl rfl rfl ?_
  refine tg_3 hX 13 57 (by decide) tw_201 rfl dw_Web_addNode_54 rfl ?_
  refine tr_put hX 8 60 (by decide) tw_555 ⟨Nat.le_of_ble_eq_true rfl, Nat.le_of_ble_eq_true rfl⟩ (Nat.le_of_ble_eq_true rfl) dw_Web_addNode_57 rfl (fun σ10 _ => ?_)
  refine gx_aload_n hX 1 61 dw_Web_addNode_60 rfl rfl rfl ?_
  refine tg_3 hX 5 64 (by decide) tw_178 rfl dw_Web_addNode_61 rfl ?_
  refine gx_iload hX 0 66 dw_Web_addNode_64 rfl rfl ?_
  refine gx_iconst hX 0 67 dw_Web_addNode_66 (by decide) rfl ?_
  refine tr_put hX 9 70 (by decide) tw_555 ⟨Nat.le_of_ble_eq_true rfl, Nat.le_of_ble_eq_true rfl⟩ (Nat.le_of_ble_eq_true rfl) dw_Web_addNode_67 rfl (fun σ12 _ => ?_)
  refine gx_aload_n hX 1 71 dw_Web_addNode_70 rfl rfl rfl ?_
  refine tg_3 hX 6 74 (by decide) tw_181 rfl dw_Web_addNode_71 rfl ?_
  refine gx_iload hX 0 76 dw_Web_addNode_74 rfl rfl ?_
  refine gx_iconst hX (-1) 77 dw_Web_addNode_76 (by decide) rfl ?_
  refine tr_put hX 10 80 (by decide) tw_555 ⟨Nat.le_of_ble_eq_true rfl, Nat.le_of_ble_eq_true rfl⟩ (Nat.le_of_ble_eq_true rfl) dw_Web_addNode_77 rfl (fun σ14 _ => ?_)
  refine gx_aload_n hX 1 81 dw_Web_addNode_80 rfl rfl rfl ?_
  refine tg_3 hX 7 84 (by decide) tw_185 rfl dw_Web_addNode_81 rfl ?_
  refine gx_iload hX 0 86 dw_Web_addNode_84 rfl rfl ?_
  refine gx_iload hX 0 88 dw_Web_addNode_86 rfl rfl ?_
  refine tr_put hX 11 91 (by decide) tw_555 ⟨Nat.le_of_ble_eq_true rfl, Nat.le_of_ble_eq_true rfl⟩ (Nat.le_of_ble_eq_true rfl) dw_Web_addNode_88 rfl (fun σ16 _ => ?_)
  refine gx_aload_n hX 1 92 dw_Web_addNode_91 rfl rfl rfl ?_
  refine tg_3 hX 8 95 (by decide) tw_187 rfl dw_Web_addNode_92 rfl ?_
  refine gx_iload hX 0 97 dw_Web_addNode_95 rfl rfl ?_
  refine gx_iconst hX 1 98 dw_Web_addNode_97 (by decide) rfl ?_
  refine tr_put hX 12 101 (by decide) tw_555 ⟨Nat.le_of_ble_eq_true rfl, Nat.le_of_ble_eq_true rfl⟩ (Nat.le_of_ble_eq_true rfl) dw_Web_addNode_98 rfl (fun σ18 _ => ?_)
  refine gx_aload_n hX 1 102 dw_Web_addNode_101 rfl rfl rfl ?_
  refine gx_dup hX 103 dw_Web_addNode_102 rfl rfl ?_
  refine tg_3 hX 12 106 (by decide) tw_199 rfl dw_Web_addNode_103 rfl ?_
  refine gx_iconst hX 1 107 dw_Web_addNode_106 (by decide) rfl ?_
  refine gx_iadd hX 108 dw_Web_addNode_107 rfl ?_
  refine tp_3 hX 111 tw_199 dw_Web_addNode_108 rfl (fun σ20 => ?_)
  refine gx_iload hX 0 113 dw_Web_addNode_111 rfl rfl ?_
  exact gx_ret hX dw_Web_addNode_113
def my_Web_addNode : MethodName := ⟨"TypeLoom$Web", "addNode", "(IIII)I"⟩
theorem hy_Web_addNode : (my_Web_addNode.cls ≠ "java/lang/invoke/MethodHandle" ∧ my_Web_addNode.cls ≠ "java/lang/invoke/VarHandle") ∧ (parseMethodDescriptor my_Web_addNode.desc).map (fun d => d.parameters.length) = some 4 := by decide +kernel
theorem tm_Web_addNode {D : va_G} {ob : Nat → Nat} {cA : ClassId} (l : Launch) (σ : gx_S) (L1 : Int32) (L2 : Int32) (L3 : Int32) (L4 : Int32) : gx_C l (tc_V D ob cA) my_Web_addNode prog_9_method_6_code 6 (some .int) 1 22 [.ref (ob 3), .int L1, .int L2, .int L3, .int L4] σ (kt_Web_addNode σ L1 L2 L3 L4) := gx_met (by decide) rfl (Nat.le_of_ble_eq_true rfl) rfl (fun X _ hX => tl_Web_addNode hX σ L1 L2 L3 L4)
theorem tr_Web_addNode {D : va_G} {ob : Nat → Nat} {cA : ClassId} {X : gx_X} {cc : ByteArray} {own : String} {nL fr lo : Nat} {rt : Option FieldType} {σ : gx_S} {pc : Nat} {lv : List (Nat × Value)} {st : List Value} (hX : gx_K (tc_V D ob cA) X cc own nL fr lo rt) {idx : Nat} {L1 : Int32} {L2 : Int32} {L3 : Int32} {L4 : Int32} {k : gx_S → Int32 → gx_R} (n : Nat) (hlink : Cond.methodLink own idx ({ cls := "TypeLoom$Web", name := "addNode", desc := "(IIII)I" } : Jvm.MethodName) ∈ gx_T) (hroom : 1 + 1 ≤ fr ∧ 8 + (6 + 11) + 22 ≤ lo) (hst : (st.map fun v => v.category).sum ≤ 8) (hd : decode cc pc = .ok (.invokevirtual idx, 3)) (hn : pc + 3 = n) (kk : ∀ σ' r, gx_G (tc_V D ob cA) X (k σ' r) σ' n lv (.int r :: st)) : gx_G (tc_V D ob cA) X (gx_bd (kt_Web_addNode σ L1 L2 L3 L4) k) σ pc lv (.int L4 :: .int L3 :: .int L2 :: .int L1 :: .ref (ob 3) :: st) :=
  gx_callI hX [.int L1, .int L2, .int L3, .int L4] n rfl (tm_Web_addNode _ σ L1 L2 L3 L4) hy_Web_addNode tw_554 hlink tw_552 tw_553 tw_74 (gf_recv 3 (show 3 < 55 by decide) rfl rfl) hroom hst hd hn rfl (fun σ' r _ => kk σ' r)
def kt_Web_addType (σ : gx_S) (L1 : Int32) : gx_R :=
  gx_bd (tc_pt σ 15 ((σ.1 5)) L1) (fun σ1 _ =>
  gx_bv (tc_at σ1 9 L1) (fun r3 =>
  gx_sb (gx_si σ1 6 ((((σ1.1 6)) + r3))) (fun σ4 =>
  gx_sb (gx_si σ4 5 ((((σ4.1 5)) + 1))) (fun σ5 =>
  some (σ5, (((σ5.1 5)) - 1))))))
set_option maxRecDepth 100000 in
set_option maxHeartbeats 4000000 in
theorem tl_Web_addType {D : va_G} {ob : Nat → Nat} {cA : ClassId} {X : gx_X} (hX : gx_K (tc_V D ob cA) X prog_9_method_8_code "TypeLoom$Web" 2 1 22 (some .int)) (σ : gx_S) (L1 : Int32) : gx_G (tc_V D ob cA) X (kt_Web_addType σ L1) σ 0 [(0, .ref (ob 3)), (1, .int L1)] [] := by
  unfold kt_Web_addType
  refine gx_aload_n hX 0 1 dw_Web_addType_0 rfl rfl rfl ?_
  refine tg_3 hX 11 4 (by decide) tw_198 rfl dw_Web_addType_1 rfl ?_
  refine gx_aload_n hX 0 5 dw_Web_addType_4 rfl rfl rfl ?_
  refine tg_3 hX 14 8 (by decide) tw_203 rfl dw_Web_addType_5 rfl ?_
  refine gx_iload_n hX 1 9 dw_Web_addType_8 rfl rfl rfl ?_
  refine tr_put hX 15 12 (by decide) tw_555 ⟨Nat.le_of_ble_eq_true rfl, Nat.le_of_ble_eq_true rfl⟩ (Nat.le_of_ble_eq_true rfl) dw_Web_addType_9 rfl (fun σ1 _ => ?_)
  refine gx_aload_n hX 0 13 dw_Web_addType_12 rfl rfl rfl ?_
  refine gx_dup hX 14 dw_Web_addType_13 rfl rfl ?_
  refine tg_3 hX 15 17 (by decide) tw_205 rfl dw_Web_addType_14 rfl ?_
  refine gx_aload_n hX 0 18 dw_Web_addType_17 rfl rfl rfl ?_
  refine tg_3 hX 5 21 (by decide) tw_178 rfl dw_Web_addType_18 rfl ?_
  refine gx_iload_n hX 1 22 dw_Web_addType_21 rfl rfl rfl ?_
  refine tr_at hX 9 25 (by decide) tw_527 ⟨Nat.le_of_ble_eq_true rfl, Nat.le_of_ble_eq_true rfl⟩ (Nat.le_of_ble_eq_true rfl) dw_Web_addType_22 rfl (fun r3 => ?_)
  refine gx_iadd hX 26 dw_Web_addType_25 rfl ?_
  refine tp_6 hX 29 tw_205 dw_Web_addType_26 rfl (fun σ4 => ?_)
  refine gx_aload_n hX 0 30 dw_Web_addType_29 rfl rfl rfl ?_
  refine gx_dup hX 31 dw_Web_addType_30 rfl rfl ?_
  refine tg_3 hX 14 34 (by decide) tw_203 rfl dw_Web_addType_31 rfl ?_
  refine gx_iconst hX 1 35 dw_Web_addType_34 (by decide) rfl ?_
  refine gx_iadd hX 36 dw_Web_addType_35 rfl ?_
  refine tp_5 hX 39 tw_203 dw_Web_addType_36 rfl (fun σ5 => ?_)
  refine gx_aload_n hX 0 40 dw_Web_addType_39 rfl rfl rfl ?_
  refine tg_3 hX 14 43 (by decide) tw_203 rfl dw_Web_addType_40 rfl ?_
  refine gx_iconst hX 1 44 dw_Web_addType_43 (by decide) rfl ?_
  refine gx_isub hX 45 dw_Web_addType_44 rfl ?_
  exact gx_ret hX dw_Web_addType_45
def my_Web_addType : MethodName := ⟨"TypeLoom$Web", "addType", "(I)I"⟩
theorem hy_Web_addType : (my_Web_addType.cls ≠ "java/lang/invoke/MethodHandle" ∧ my_Web_addType.cls ≠ "java/lang/invoke/VarHandle") ∧ (parseMethodDescriptor my_Web_addType.desc).map (fun d => d.parameters.length) = some 1 := by decide +kernel
theorem tm_Web_addType {D : va_G} {ob : Nat → Nat} {cA : ClassId} (l : Launch) (σ : gx_S) (L1 : Int32) : gx_C l (tc_V D ob cA) my_Web_addType prog_9_method_8_code 2 (some .int) 1 22 [.ref (ob 3), .int L1] σ (kt_Web_addType σ L1) := gx_met (by decide) rfl (Nat.le_of_ble_eq_true rfl) rfl (fun X _ hX => tl_Web_addType hX σ L1)
theorem tr_Web_addType {D : va_G} {ob : Nat → Nat} {cA : ClassId} {X : gx_X} {cc : ByteArray} {own : String} {nL fr lo : Nat} {rt : Option FieldType} {σ : gx_S} {pc : Nat} {lv : List (Nat × Value)} {st : List Value} (hX : gx_K (tc_V D ob cA) X cc own nL fr lo rt) {idx : Nat} {L1 : Int32} {k : gx_S → Int32 → gx_R} (n : Nat) (hlink : Cond.methodLink own idx ({ cls := "TypeLoom$Web", name := "addType", desc := "(I)I" } : Jvm.MethodName) ∈ gx_T) (hroom : 1 + 1 ≤ fr ∧ 8 + (2 + 11) + 22 ≤ lo) (hst : (st.map fun v => v.category).sum ≤ 8) (hd : decode cc pc = .ok (.invokevirtual idx, 3)) (hn : pc + 3 = n) (kk : ∀ σ' r, gx_G (tc_V D ob cA) X (k σ' r) σ' n lv (.int r :: st)) : gx_G (tc_V D ob cA) X (gx_bd (kt_Web_addType σ L1) k) σ pc lv (.int L1 :: .ref (ob 3) :: st) :=
  gx_callI hX [.int L1] n rfl (tm_Web_addType _ σ L1) hy_Web_addType tw_568 hlink tw_566 tw_567 tw_74 (gf_recv 3 (show 3 < 55 by decide) rfl rfl) hroom hst hd hn rfl (fun σ' r _ => kk σ' r)
def kt_Web_drop (σ : gx_S)  : gx_R :=
  gx_sb (gx_si σ 3 0) (fun σ1 =>
  gx_sb (gx_si σ1 4 0) (fun σ2 =>
  gx_sb (gx_si σ2 5 0) (fun σ3 =>
  gx_sb (gx_si σ3 6 0) (fun σ4 =>
  gx_sb (gx_si σ4 7 0) (fun σ5 =>
  some (σ5, 0))))))
set_option maxRecDepth 100000 in
set_option maxHeartbeats 4000000 in
theorem tl_Web_drop {D : va_G} {ob : Nat → Nat} {cA : ClassId} {X : gx_X} (hX : gx_K (tc_V D ob cA) X prog_9_method_2_code "TypeLoom$Web" 1 0 0 none) (σ : gx_S)  : gx_G (tc_V D ob cA) X (kt_Web_drop σ ) σ 0 [(0, .ref (ob 3))] [] := by
  unfold kt_Web_drop
  refine gx_aload_n hX 0 1 dw_Web_drop_0 rfl rfl rfl ?_
  refine gx_iconst hX 0 2 dw_Web_drop_1 (by decide) rfl ?_
  refine tp_3 hX 5 tw_199 dw_Web_drop_2 rfl (fun σ1 => ?_)
  refine gx_aload_n hX 0 6 dw_Web_drop_5 rfl rfl rfl ?_
  refine gx_iconst hX 0 7 dw_Web_drop_6 (by decide) rfl ?_
  refine tp_4 hX 10 tw_201 dw_Web_drop_7 rfl (fun σ2 => ?_)
  refine gx_aload_n hX 0 11 dw_Web_drop_10 rfl rfl rfl ?_
  refine gx_iconst hX 0 12 dw_Web_drop_11 (by decide) rfl ?_
  refine tp_5 hX 15 tw_203 dw_Web_drop_12 rfl (fun σ3 => ?_)
  refine gx_aload_n hX 0 16 dw_Web_drop_15 rfl rfl rfl ?_
  refine gx_iconst hX 0 17 dw_Web_drop_16 (by decide) rfl ?_
  refine tp_6 hX 20 tw_205 dw_Web_drop_17 rfl (fun σ4 => ?_)
  refine gx_aload_n hX 0 21 dw_Web_drop_20 rfl rfl rfl ?_
  refine gx_iconst hX 0 22 dw_Web_drop_21 (by decide) rfl ?_
  refine tp_7 hX 25 tw_207 dw_Web_drop_22 rfl (fun σ5 => ?_)
  exact gx_retv hX dw_Web_drop_25
def my_Web_drop : MethodName := ⟨"TypeLoom$Web", "drop", "()V"⟩
theorem hy_Web_drop : (my_Web_drop.cls ≠ "java/lang/invoke/MethodHandle" ∧ my_Web_drop.cls ≠ "java/lang/invoke/VarHandle") ∧ (parseMethodDescriptor my_Web_drop.desc).map (fun d => d.parameters.length) = some 0 := by decide +kernel
theorem tm_Web_drop {D : va_G} {ob : Nat → Nat} {cA : ClassId} (l : Launch) (σ : gx_S)  : gx_C l (tc_V D ob cA) my_Web_drop prog_9_method_2_code 1 none 0 0 [.ref (ob 3)] σ (kt_Web_drop σ ) := gx_met (by decide) rfl (Nat.le_of_ble_eq_true rfl) rfl (fun X _ hX => tl_Web_drop hX σ )
theorem tr_Web_drop {D : va_G} {ob : Nat → Nat} {cA : ClassId} {X : gx_X} {cc : ByteArray} {own : String} {nL fr lo : Nat} {rt : Option FieldType} {σ : gx_S} {pc : Nat} {lv : List (Nat × Value)} {st : List Value} (hX : gx_K (tc_V D ob cA) X cc own nL fr lo rt) {idx : Nat}  {k : gx_S → Int32 → gx_R} (n : Nat) (hlink : Cond.methodLink own idx ({ cls := "TypeLoom$Web", name := "drop", desc := "()V" } : Jvm.MethodName) ∈ gx_T) (hroom : 0 + 1 ≤ fr ∧ 8 + (1 + 11) + 0 ≤ lo) (hst : (st.map fun v => v.category).sum ≤ 8) (hd : decode cc pc = .ok (.invokevirtual idx, 3)) (hn : pc + 3 = n) (kk : ∀ σ' r, gx_G (tc_V D ob cA) X (k σ' r) σ' n lv (st)) : gx_G (tc_V D ob cA) X (gx_bd (kt_Web_drop σ ) k) σ pc lv (.ref (ob 3) :: st) :=
  gx_callW hX [] n (tm_Web_drop _ σ ) hy_Web_drop tw_893 hlink tw_891 tw_892 tw_74 (gf_recv 3 (show 3 < 55 by decide) rfl rfl) hroom hst hd hn rfl (fun σ' r _ => kk σ' r)
def kt_Web_follow (σ : gx_S) (L1 : Int32) (L2 : Int64) : gx_R :=
  gx_bd (kt_Web_isType σ L1) (fun σ1 r2 =>
  gx_jn (fun (σ3 : gx_S) (L2 : Int64) (S0 : Int32) =>
    gx_lp (α := gx_S → Int32 → Int64 → Int32 → gx_R) (fun _ _ _ _ => none) (fun again32 (σ4 : gx_S) (L4 : Int32) (L5 : Int64) (L7 : Int32) =>
      if 8 ≤ L7 then
      some (σ4, L4)
    else
      if L4 = (-1) then
        some (σ4, L4)
      else
        if (lg_cmp ((L5 &&& 255)) 0) = 0 then
          some (σ4, L4)
        else
          none) gx_F σ3 S0 L2 0) (fun j24 =>
  if r2 = 0 then
    j24 σ1 L2 (-1)
  else
    gx_bv (tc_at σ1 15 L1) (fun r5 =>
    none)))
set_option maxRecDepth 100000 in
set_option maxHeartbeats 4000000 in
theorem tl_Web_follow {D : va_G} {ob : Nat → Nat} {cA : ClassId} {X : gx_X} (hX : gx_K (tc_V D ob cA) X prog_9_method_17_code "TypeLoom$Web" 8 1 21 (some .int)) (σ : gx_S) (L1 : Int32) (L2 : Int64) : gx_G (tc_V D ob cA) X (kt_Web_follow σ L1 L2) σ 0 [(0, .ref (ob 3)), (1, .int L1), (2, .long L2)] [] := by
  unfold kt_Web_follow
  refine gx_aload_n hX 0 1 dw_Web_follow_0 rfl rfl rfl ?_
  refine gx_iload_n hX 1 2 dw_Web_follow_1 rfl rfl rfl ?_
  refine tr_Web_isType hX 5 tw_742 ⟨Nat.le_of_ble_eq_true rfl, Nat.le_of_ble_eq_true rfl⟩ (Nat.le_of_ble_eq_true rfl) dw_Web_follow_2 rfl (fun σ1 r2 => ?_)
  refine gx_jnI (fun (j : gx_S → Int64 → Int32 → gx_R) => ∀ (σ3 : gx_S) (L2 : Int64) (S0 : Int32), gx_G (tc_V D ob cA) X (j σ3 L2 S0) σ3 24 [(0, .ref (ob 3)), (2, .long L2)] [.int S0]) (fun σ3 L2 S0 => ?_) (fun j24 h24 => ?_)
  · refine gx_istore hX [(4, .int S0), (0, .ref (ob 3)), (2, .long L2)] 26 dw_Web_follow_24 (by decide) rfl rfl ?_
    refine gx_lload_n hX 2 27 dw_Web_follow_26 rfl rfl rfl ?_
    refine gx_lstore hX [(5, .long L2), (4, .int S0), (0, .ref (ob 3)), (2, .long L2)] 29 dw_Web_follow_27 (by decide) rfl rfl ?_
    refine gx_iconst hX 0 30 dw_Web_follow_29 (by decide) rfl ?_
    refine gx_istore hX [(7, .int 0), (5, .long L2), (4, .int S0), (0, .ref (ob 3)), (2, .long L2)] 32 dw_Web_follow_30 (by decide) rfl rfl ?_
    refine gx_pick (lv' := [(0, .ref (ob 3)), (4, .int S0), (5, .long L2), (7, .int 0)]) hX [3, 2, 1, 0] rfl (gx_lpI (fun (f : gx_S → Int32 → Int64 → Int32 → gx_R) => ∀ (σ4 : gx_S) (L4 : Int32) (L5 : Int64) (L7 : Int32), gx_G (tc_V D ob cA) X (f σ4 L4 L5 L7) σ4 32 [(0, .ref (ob 3)), (4, .int L4), (5, .long L5), (7, .int L7)] []) (fun _ _ _ _ => gx_none) (fun again32 ih32 σ4 L4 L5 L7 => ?_) _ σ3 S0 L2 0)
    refine gx_iload hX 3 34 dw_Web_follow_32 rfl rfl ?_
    refine gx_bipush hX 8 36 dw_Web_follow_34 (by decide) rfl ?_
    refine gx_icmp_ge hX 90 39 dw_Web_follow_36 (by decide) rfl (fun _ => ?_) (fun _ => ?_)
    · refine gx_iload hX 1 92 dw_Web_follow_90 rfl rfl ?_
      exact gx_ret hX dw_Web_follow_92
    · refine gx_iload hX 1 41 dw_Web_follow_39 rfl rfl ?_
      refine gx_iconst hX (-1) 42 dw_Web_follow_41 (by decide) rfl ?_
      refine gx_icmp_eq hX 90 45 dw_Web_follow_42 (by decide) rfl (fun _ => ?_) (fun _ => ?_)
      · refine gx_iload hX 1 92 dw_Web_follow_90 rfl rfl ?_
        exact gx_ret hX dw_Web_follow_92
      · refine gx_lload hX 2 47 dw_Web_follow_45 rfl rfl ?_
        refine gx_ldc2 hX 255 50 dw_Web_follow_47 tw_743 rfl ?_
        refine gx_land hX 51 dw_Web_follow_50 rfl ?_
        refine gx_lconst hX 0 52 dw_Web_follow_51 (by decide) rfl ?_
        refine gx_lcmp hX 53 dw_Web_follow_52 rfl ?_
        refine gx_if_eq hX 90 56 dw_Web_follow_53 (by decide) rfl (fun _ => ?_) (fun _ => ?_)
        · refine gx_iload hX 1 92 dw_Web_follow_90 rfl rfl ?_
          exact gx_ret hX dw_Web_follow_92
        · refine gx_aload_n hX 0 57 dw_Web_follow_56 rfl rfl rfl ?_
          refine gx_aload_n hX 0 58 dw_Web_follow_57 rfl rfl rfl ?_
          refine gx_iload hX 1 60 dw_Web_follow_58 rfl rfl ?_
          refine gx_lload hX 2 62 dw_Web_follow_60 rfl rfl ?_
          refine gx_ldc2 hX 255 65 dw_Web_follow_62 tw_743 rfl ?_
          refine gx_land hX 66 dw_Web_follow_65 rfl ?_
          refine gx_l2i hX 67 dw_Web_follow_66 rfl ?_
          refine gx_iconst hX 1 68 dw_Web_follow_67 (by decide) rfl ?_
          refine gx_isub hX 69 dw_Web_follow_68 rfl ?_
          exact gx_none
  refine gx_if_eq hX 23 8 dw_Web_follow_5 (by decide) rfl (fun _ => ?_) (fun _ => ?_)
  · refine gx_iconst hX (-1) 24 dw_Web_follow_23 (by decide) rfl ?_
    exact gx_pick (lv' := [(0, .ref (ob 3)), (2, .long L2)]) hX [0, 2] rfl (h24 σ1 L2 (-1))
  · refine gx_aload_n hX 0 9 dw_Web_follow_8 rfl rfl rfl ?_
    refine gx_aload_n hX 0 10 dw_Web_follow_9 rfl rfl rfl ?_
    refine tg_3 hX 11 13 (by decide) tw_198 rfl dw_Web_follow_10 rfl ?_
    refine gx_iload_n hX 1 14 dw_Web_follow_13 rfl rfl rfl ?_
    refine tr_at hX 15 17 (by decide) tw_527 ⟨Nat.le_of_ble_eq_true rfl, Nat.le_of_ble_eq_true rfl⟩ (Nat.le_of_ble_eq_true rfl) dw_Web_follow_14 rfl (fun r5 => ?_)
    exact gx_none
def my_Web_follow : MethodName := ⟨"TypeLoom$Web", "follow", "(IJ)I"⟩
theorem hy_Web_follow : (my_Web_follow.cls ≠ "java/lang/invoke/MethodHandle" ∧ my_Web_follow.cls ≠ "java/lang/invoke/VarHandle") ∧ (parseMethodDescriptor my_Web_follow.desc).map (fun d => d.parameters.length) = some 2 := by decide +kernel
theorem tm_Web_follow {D : va_G} {ob : Nat → Nat} {cA : ClassId} (l : Launch) (σ : gx_S) (L1 : Int32) (L2 : Int64) : gx_C l (tc_V D ob cA) my_Web_follow prog_9_method_17_code 8 (some .int) 1 21 [.ref (ob 3), .int L1, .long L2] σ (kt_Web_follow σ L1 L2) := gx_met (by decide) rfl (Nat.le_of_ble_eq_true rfl) rfl (fun X _ hX => tl_Web_follow hX σ L1 L2)
theorem tr_Web_follow {D : va_G} {ob : Nat → Nat} {cA : ClassId} {X : gx_X} {cc : ByteArray} {own : String} {nL fr lo : Nat} {rt : Option FieldType} {σ : gx_S} {pc : Nat} {lv : List (Nat × Value)} {st : List Value} (hX : gx_K (tc_V D ob cA) X cc own nL fr lo rt) {idx : Nat} {L1 : Int32} {L2 : Int64} {k : gx_S → Int32 → gx_R} (n : Nat) (hlink : Cond.methodLink own idx ({ cls := "TypeLoom$Web", name := "follow", desc := "(IJ)I" } : Jvm.MethodName) ∈ gx_T) (hroom : 1 + 1 ≤ fr ∧ 8 + (8 + 11) + 21 ≤ lo) (hst : (st.map fun v => v.category).sum ≤ 8) (hd : decode cc pc = .ok (.invokevirtual idx, 3)) (hn : pc + 3 = n) (kk : ∀ σ' r, gx_G (tc_V D ob cA) X (k σ' r) σ' n lv (.int r :: st)) : gx_G (tc_V D ob cA) X (gx_bd (kt_Web_follow σ L1 L2) k) σ pc lv (.long L2 :: .int L1 :: .ref (ob 3) :: st) :=
  gx_callI hX [.int L1, .long L2] n rfl (tm_Web_follow _ σ L1 L2) hy_Web_follow tw_741 hlink tw_739 tw_740 tw_74 (gf_recv 3 (show 3 < 55 by decide) rfl rfl) hroom hst hd hn rfl (fun σ' r _ => kk σ' r)
def kt_Schemes_has (σ : gx_S) (L1 : Int32) : gx_R :=
  if L1 < 0 then
    gx_rz σ 0
  else
    if (σ.1 17) ≤ L1 then
      gx_rz σ 0
    else
      gx_rz σ 1
set_option maxRecDepth 100000 in
set_option maxHeartbeats 4000000 in
theorem tl_Schemes_has {D : va_G} {ob : Nat → Nat} {cA : ClassId} {X : gx_X} (hX : gx_K (tc_V D ob cA) X prog_5_method_2_code "TypeLoom$Schemes" 2 0 0 (some .boolean)) (σ : gx_S) (L1 : Int32) : gx_G (tc_V D ob cA) X (kt_Schemes_has σ L1) σ 0 [(0, .ref (ob 7)), (1, .int L1)] [] := by
  unfold kt_Schemes_has
  refine gx_iload_n hX 1 1 dw_Schemes_has_0 rfl rfl rfl ?_
  refine gx_if_lt hX 16 4 dw_Schemes_has_1 (by decide) rfl (fun _ => ?_) (fun _ => ?_)
  · refine gx_iconst hX 0 17 dw_Schemes_has_16 (by decide) rfl ?_
    exact gx_retz hX dw_Schemes_has_17
  · refine gx_iload_n hX 1 5 dw_Schemes_has_4 rfl rfl rfl ?_
    refine gx_aload_n hX 0 6 dw_Schemes_has_5 rfl rfl rfl ?_
    refine tg_7 hX 15 9 (by decide) tw_407 rfl dw_Schemes_has_6 rfl ?_
    refine gx_icmp_ge hX 16 12 dw_Schemes_has_9 (by decide) rfl (fun _ => ?_) (fun _ => ?_)
    · refine gx_iconst hX 0 17 dw_Schemes_has_16 (by decide) rfl ?_
      exact gx_retz hX dw_Schemes_has_17
    · refine gx_iconst hX 1 13 dw_Schemes_has_12 (by decide) rfl ?_
      refine gx_goto hX 17 dw_Schemes_has_13 (by decide) ?_
      exact gx_retz hX dw_Schemes_has_17
def my_Schemes_has : MethodName := ⟨"TypeLoom$Schemes", "has", "(I)Z"⟩
theorem hy_Schemes_has : (my_Schemes_has.cls ≠ "java/lang/invoke/MethodHandle" ∧ my_Schemes_has.cls ≠ "java/lang/invoke/VarHandle") ∧ (parseMethodDescriptor my_Schemes_has.desc).map (fun d => d.parameters.length) = some 1 := by decide +kernel
theorem tm_Schemes_has {D : va_G} {ob : Nat → Nat} {cA : ClassId} (l : Launch) (σ : gx_S) (L1 : Int32) : gx_C l (tc_V D ob cA) my_Schemes_has prog_5_method_2_code 2 (some .boolean) 0 0 [.ref (ob 7), .int L1] σ (kt_Schemes_has σ L1) := gx_met (by decide) rfl (Nat.le_of_ble_eq_true rfl) rfl (fun X _ hX => tl_Schemes_has hX σ L1)
theorem tr_Schemes_has {D : va_G} {ob : Nat → Nat} {cA : ClassId} {X : gx_X} {cc : ByteArray} {own : String} {nL fr lo : Nat} {rt : Option FieldType} {σ : gx_S} {pc : Nat} {lv : List (Nat × Value)} {st : List Value} (hX : gx_K (tc_V D ob cA) X cc own nL fr lo rt) {idx : Nat} {L1 : Int32} {k : gx_S → Int32 → gx_R} (n : Nat) (hlink : Cond.methodLink own idx ({ cls := "TypeLoom$Schemes", name := "has", desc := "(I)Z" } : Jvm.MethodName) ∈ gx_T) (hroom : 0 + 1 ≤ fr ∧ 8 + (2 + 11) + 0 ≤ lo) (hst : (st.map fun v => v.category).sum ≤ 8) (hd : decode cc pc = .ok (.invokevirtual idx, 3)) (hn : pc + 3 = n) (kk : ∀ σ' r, gx_G (tc_V D ob cA) X (k σ' r) σ' n lv (.int r :: st)) : gx_G (tc_V D ob cA) X (gx_bd (kt_Schemes_has σ L1) k) σ pc lv (.int L1 :: .ref (ob 7) :: st) :=
  gx_callI hX [.int L1] n rfl (tm_Schemes_has _ σ L1) hy_Schemes_has tw_844 hlink tw_842 tw_843 tw_78 (gf_recv 7 (show 7 < 55 by decide) rfl rfl) hroom hst hd hn rfl (fun σ' r _ => kk σ' r)
def kt_Schemes_canKeep (σ : gx_S) (L1 : Int32) (L2 : Int32) : gx_R :=
  if L1 < 0 then
    gx_rz σ 0
  else
    if L1 ≤ (σ.1 17) then
      gx_jn (fun (σ1 : gx_S) (L1 : Int32) (L2 : Int32) =>
        gx_lp (α := gx_S → Int32 → Int32 → Int32 → gx_R) (fun _ _ _ _ => none) (fun again39 (σ2 : gx_S) (L1 : Int32) (L2 : Int32) (L3 : Int32) =>
          gx_bv (tc_at σ2 40 L1) (fun r3 =>
        if r3 ≤ L3 then
          gx_rz σ2 1
        else
          gx_bv (tc_at σ2 34 L3) (fun r4 =>
          gx_jn (fun (σ5 : gx_S) (L1 : Int32) (L2 : Int32) (L3 : Int32) =>
            gx_bv (L3 + 1) (fun x6 =>
            again39 σ5 L1 L2 x6)) (fun j77 =>
          if r4 = 2 then
            gx_bv (tc_at σ2 35 L3) (fun r7 =>
            if r7 < L2 then
              j77 σ2 L1 L2 L3
            else
              gx_rz σ2 0)
          else
            j77 σ2 L1 L2 L3)))) gx_F σ1 L1 L2 0) (fun j37 =>
      gx_lp (α := gx_S → Int32 → Int32 → Int32 → gx_R) (fun _ _ _ _ => none) (fun again16 (σ8 : gx_S) (L1 : Int32) (L2 : Int32) (L3 : Int32) =>
        if L1 ≤ L3 then
        j37 σ8 L1 L2
      else
        none) gx_F σ L1 L2 0)
    else
      gx_rz σ 0
set_option maxRecDepth 100000 in
set_option maxHeartbeats 4000000 in
theorem tl_Schemes_canKeep {D : va_G} {ob : Nat → Nat} {cA : ClassId} {X : gx_X} (hX : gx_K (tc_V D ob cA) X prog_5_method_12_code "TypeLoom$Schemes" 4 1 21 (some .boolean)) (σ : gx_S) (L1 : Int32) (L2 : Int32) : gx_G (tc_V D ob cA) X (kt_Schemes_canKeep σ L1 L2) σ 0 [(0, .ref (ob 7)), (1, .int L1), (2, .int L2)] [] := by
  unfold kt_Schemes_canKeep
  refine gx_iload_n hX 1 1 dw_Schemes_canKeep_0 rfl rfl rfl ?_
  refine gx_if_lt hX 12 4 dw_Schemes_canKeep_1 (by decide) rfl (fun _ => ?_) (fun _ => ?_)
  · refine gx_iconst hX 0 13 dw_Schemes_canKeep_12 (by decide) rfl ?_
    exact gx_retz hX dw_Schemes_canKeep_13
  · refine gx_iload_n hX 1 5 dw_Schemes_canKeep_4 rfl rfl rfl ?_
    refine gx_aload_n hX 0 6 dw_Schemes_canKeep_5 rfl rfl rfl ?_
    refine tg_7 hX 15 9 (by decide) tw_407 rfl dw_Schemes_canKeep_6 rfl ?_
    refine gx_icmp_le hX 14 12 dw_Schemes_canKeep_9 (by decide) rfl (fun _ => ?_) (fun _ => ?_)
    · refine gx_iconst hX 0 15 dw_Schemes_canKeep_14 (by decide) rfl ?_
      refine gx_istore_n hX [(3, .int 0), (0, .ref (ob 7)), (1, .int L1), (2, .int L2)] 16 dw_Schemes_canKeep_15 rfl (by decide) rfl rfl ?_
      refine gx_jnI (fun (j : gx_S → Int32 → Int32 → gx_R) => ∀ (σ1 : gx_S) (L1 : Int32) (L2 : Int32), gx_G (tc_V D ob cA) X (j σ1 L1 L2) σ1 37 [(0, .ref (ob 7)), (1, .int L1), (2, .int L2)] []) (fun σ1 L1 L2 => ?_) (fun j37 h37 => ?_)
      · refine gx_iconst hX 0 38 dw_Schemes_canKeep_37 (by decide) rfl ?_
        refine gx_istore_n hX [(3, .int 0), (0, .ref (ob 7)), (1, .int L1), (2, .int L2)] 39 dw_Schemes_canKeep_38 rfl (by decide) rfl rfl ?_
        refine gx_pick (lv' := [(0, .ref (ob 7)), (1, .int L1), (2, .int L2), (3, .int 0)]) hX [1, 2, 3, 0] rfl (gx_lpI (fun (f : gx_S → Int32 → Int32 → Int32 → gx_R) => ∀ (σ2 : gx_S) (L1 : Int32) (L2 : Int32) (L3 : Int32), gx_G (tc_V D ob cA) X (f σ2 L1 L2 L3) σ2 39 [(0, .ref (ob 7)), (1, .int L1), (2, .int L2), (3, .int L3)] []) (fun _ _ _ _ => gx_none) (fun again39 ih39 σ2 L1 L2 L3 => ?_) _ σ1 L1 L2 0)
        refine gx_iload_n hX 3 40 dw_Schemes_canKeep_39 rfl rfl rfl ?_
        refine gx_aload_n hX 0 41 dw_Schemes_canKeep_40 rfl rfl rfl ?_
        refine tg_7 hX 8 44 (by decide) tw_398 rfl dw_Schemes_canKeep_41 rfl ?_
        refine gx_iload_n hX 1 45 dw_Schemes_canKeep_44 rfl rfl rfl ?_
        refine tr_at hX 40 48 (by decide) tw_819 ⟨Nat.le_of_ble_eq_true rfl, Nat.le_of_ble_eq_true rfl⟩ (Nat.le_of_ble_eq_true rfl) dw_Schemes_canKeep_45 rfl (fun r3 => ?_)
        refine gx_icmp_ge hX 83 51 dw_Schemes_canKeep_48 (by decide) rfl (fun _ => ?_) (fun _ => ?_)
        · refine gx_iconst hX 1 84 dw_Schemes_canKeep_83 (by decide) rfl ?_
          exact gx_retz hX dw_Schemes_canKeep_84
        · refine gx_aload_n hX 0 52 dw_Schemes_canKeep_51 rfl rfl rfl ?_
          refine tg_7 hX 2 55 (by decide) tw_392 rfl dw_Schemes_canKeep_52 rfl ?_
          refine gx_iload_n hX 3 56 dw_Schemes_canKeep_55 rfl rfl rfl ?_
          refine tr_at hX 34 59 (by decide) tw_819 ⟨Nat.le_of_ble_eq_true rfl, Nat.le_of_ble_eq_true rfl⟩ (Nat.le_of_ble_eq_true rfl) dw_Schemes_canKeep_56 rfl (fun r4 => ?_)
          refine gx_iconst hX 2 60 dw_Schemes_canKeep_59 (by decide) rfl ?_
          refine gx_jnI (fun (j : gx_S → Int32 → Int32 → Int32 → gx_R) => ∀ (σ5 : gx_S) (L1 : Int32) (L2 : Int32) (L3 : Int32), gx_G (tc_V D ob cA) X (j σ5 L1 L2 L3) σ5 77 [(0, .ref (ob 7)), (1, .int L1), (2, .int L2), (3, .int L3)] []) (fun σ5 L1 L2 L3 => ?_) (fun j77 h77 => ?_)
          · refine gx_iincN hX (q := 3) (fun x6 => [(3, .int x6), (0, .ref (ob 7)), (1, .int L1), (2, .int L2)]) 80 dw_Schemes_canKeep_77 rfl rfl (by decide) (fun _ => rfl) rfl (fun x6 => ?_)
            refine gx_goto hX 39 dw_Schemes_canKeep_80 (by decide) ?_
            exact gx_pick (lv' := [(0, .ref (ob 7)), (1, .int L1), (2, .int L2), (3, .int x6)]) hX [1, 2, 3, 0] rfl (ih39 σ5 L1 L2 x6)
          refine gx_icmp_ne hX 77 63 dw_Schemes_canKeep_60 (by decide) rfl (fun _ => ?_) (fun _ => ?_)
          · exact gx_pick (lv' := [(0, .ref (ob 7)), (1, .int L1), (2, .int L2), (3, .int L3)]) hX [0, 1, 2, 3] rfl (h77 σ2 L1 L2 L3)
          · refine gx_aload_n hX 0 64 dw_Schemes_canKeep_63 rfl rfl rfl ?_
            refine tg_7 hX 3 67 (by decide) tw_393 rfl dw_Schemes_canKeep_64 rfl ?_
            refine gx_iload_n hX 3 68 dw_Schemes_canKeep_67 rfl rfl rfl ?_
            refine tr_at hX 35 71 (by decide) tw_819 ⟨Nat.le_of_ble_eq_true rfl, Nat.le_of_ble_eq_true rfl⟩ (Nat.le_of_ble_eq_true rfl) dw_Schemes_canKeep_68 rfl (fun r7 => ?_)
            refine gx_iload_n hX 2 72 dw_Schemes_canKeep_71 rfl rfl rfl ?_
            refine gx_icmp_lt hX 77 75 dw_Schemes_canKeep_72 (by decide) rfl (fun _ => ?_) (fun _ => ?_)
            · exact gx_pick (lv' := [(0, .ref (ob 7)), (1, .int L1), (2, .int L2), (3, .int L3)]) hX [0, 1, 2, 3] rfl (h77 σ2 L1 L2 L3)
            · refine gx_iconst hX 0 76 dw_Schemes_canKeep_75 (by decide) rfl ?_
              exact gx_retz hX dw_Schemes_canKeep_76
      refine gx_pick (lv' := [(0, .ref (ob 7)), (1, .int L1), (2, .int L2), (3, .int 0)]) hX [1, 2, 3, 0] rfl (gx_lpI (fun (f : gx_S → Int32 → Int32 → Int32 → gx_R) => ∀ (σ8 : gx_S) (L1 : Int32) (L2 : Int32) (L3 : Int32), gx_G (tc_V D ob cA) X (f σ8 L1 L2 L3) σ8 16 [(0, .ref (ob 7)), (1, .int L1), (2, .int L2), (3, .int L3)] []) (fun _ _ _ _ => gx_none) (fun again16 ih16 σ8 L1 L2 L3 => ?_) _ σ L1 L2 0)
      refine gx_iload_n hX 3 17 dw_Schemes_canKeep_16 rfl rfl rfl ?_
      refine gx_iload_n hX 1 18 dw_Schemes_canKeep_17 rfl rfl rfl ?_
      refine gx_icmp_ge hX 37 21 dw_Schemes_canKeep_18 (by decide) rfl (fun _ => ?_) (fun _ => ?_)
      · exact gx_pick (lv' := [(0, .ref (ob 7)), (1, .int L1), (2, .int L2)]) hX [0, 1, 2] rfl (h37 σ8 L1 L2)
      · refine gx_aload_n hX 0 22 dw_Schemes_canKeep_21 rfl rfl rfl ?_
        refine gx_iload_n hX 3 23 dw_Schemes_canKeep_22 rfl rfl rfl ?_
        exact gx_none
    · refine gx_iconst hX 0 13 dw_Schemes_canKeep_12 (by decide) rfl ?_
      exact gx_retz hX dw_Schemes_canKeep_13
def my_Schemes_canKeep : MethodName := ⟨"TypeLoom$Schemes", "canKeep", "(II)Z"⟩
theorem hy_Schemes_canKeep : (my_Schemes_canKeep.cls ≠ "java/lang/invoke/MethodHandle" ∧ my_Schemes_canKeep.cls ≠ "java/lang/invoke/VarHandle") ∧ (parseMethodDescriptor my_Schemes_canKeep.desc).map (fun d => d.parameters.length) = some 2 := by decide +kernel
theorem tm_Schemes_canKeep {D : va_G} {ob : Nat → Nat} {cA : ClassId} (l : Launch) (σ : gx_S) (L1 : Int32) (L2 : Int32) : gx_C l (tc_V D ob cA) my_Schemes_canKeep prog_5_method_12_code 4 (some .boolean) 1 21 [.ref (ob 7), .int L1, .int L2] σ (kt_Schemes_canKeep σ L1 L2) := gx_met (by decide) rfl (Nat.le_of_ble_eq_true rfl) rfl (fun X _ hX => tl_Schemes_canKeep hX σ L1 L2)
theorem tr_Schemes_canKeep {D : va_G} {ob : Nat → Nat} {cA : ClassId} {X : gx_X} {cc : ByteArray} {own : String} {nL fr lo : Nat} {rt : Option FieldType} {σ : gx_S} {pc : Nat} {lv : List (Nat × Value)} {st : List Value} (hX : gx_K (tc_V D ob cA) X cc own nL fr lo rt) {idx : Nat} {L1 : Int32} {L2 : Int32} {k : gx_S → Int32 → gx_R} (n : Nat) (hlink : Cond.methodLink own idx ({ cls := "TypeLoom$Schemes", name := "canKeep", desc := "(II)Z" } : Jvm.MethodName) ∈ gx_T) (hroom : 1 + 1 ≤ fr ∧ 8 + (4 + 11) + 21 ≤ lo) (hst : (st.map fun v => v.category).sum ≤ 8) (hd : decode cc pc = .ok (.invokevirtual idx, 3)) (hn : pc + 3 = n) (kk : ∀ σ' r, gx_G (tc_V D ob cA) X (k σ' r) σ' n lv (.int r :: st)) : gx_G (tc_V D ob cA) X (gx_bd (kt_Schemes_canKeep σ L1 L2) k) σ pc lv (.int L2 :: .int L1 :: .ref (ob 7) :: st) :=
  gx_callI hX [.int L1, .int L2] n rfl (tm_Schemes_canKeep _ σ L1 L2) hy_Schemes_canKeep tw_884 hlink tw_882 tw_883 tw_78 (gf_recv 7 (show 7 < 55 by decide) rfl rfl) hroom hst hd hn rfl (fun σ' r _ => kk σ' r)
def kt_Schemes_cutTo (σ : gx_S) (L1 : Int32) : gx_R :=
  gx_sb (gx_si σ 17 L1) (fun σ1 =>
  gx_bv (tc_at σ1 40 L1) (fun r2 =>
  gx_sb (gx_si σ1 18 r2) (fun σ3 =>
  gx_bv (tc_at σ3 37 ((σ3.1 18))) (fun r4 =>
  gx_sb (gx_si σ3 19 r4) (fun σ5 =>
  some (σ5, 0))))))
set_option maxRecDepth 100000 in
set_option maxHeartbeats 4000000 in
theorem tl_Schemes_cutTo {D : va_G} {ob : Nat → Nat} {cA : ClassId} {X : gx_X} (hX : gx_K (tc_V D ob cA) X prog_5_method_13_code "TypeLoom$Schemes" 2 1 21 none) (σ : gx_S) (L1 : Int32) : gx_G (tc_V D ob cA) X (kt_Schemes_cutTo σ L1) σ 0 [(0, .ref (ob 7)), (1, .int L1)] [] := by
  unfold kt_Schemes_cutTo
  refine gx_aload_n hX 0 1 dw_Schemes_cutTo_0 rfl rfl rfl ?_
  refine gx_iload_n hX 1 2 dw_Schemes_cutTo_1 rfl rfl rfl ?_
  refine tp_17 hX 5 tw_407 dw_Schemes_cutTo_2 rfl (fun σ1 => ?_)
  refine gx_aload_n hX 0 6 dw_Schemes_cutTo_5 rfl rfl rfl ?_
  refine gx_aload_n hX 0 7 dw_Schemes_cutTo_6 rfl rfl rfl ?_
  refine tg_7 hX 8 10 (by decide) tw_398 rfl dw_Schemes_cutTo_7 rfl ?_
  refine gx_iload_n hX 1 11 dw_Schemes_cutTo_10 rfl rfl rfl ?_
  refine tr_at hX 40 14 (by decide) tw_819 ⟨Nat.le_of_ble_eq_true rfl, Nat.le_of_ble_eq_true rfl⟩ (Nat.le_of_ble_eq_true rfl) dw_Schemes_cutTo_11 rfl (fun r2 => ?_)
  refine tp_18 hX 17 tw_409 dw_Schemes_cutTo_14 rfl (fun σ3 => ?_)
  refine gx_aload_n hX 0 18 dw_Schemes_cutTo_17 rfl rfl rfl ?_
  refine gx_aload_n hX 0 19 dw_Schemes_cutTo_18 rfl rfl rfl ?_
  refine tg_7 hX 5 22 (by decide) tw_395 rfl dw_Schemes_cutTo_19 rfl ?_
  refine gx_aload_n hX 0 23 dw_Schemes_cutTo_22 rfl rfl rfl ?_
  refine tg_7 hX 16 26 (by decide) tw_409 rfl dw_Schemes_cutTo_23 rfl ?_
  refine tr_at hX 37 29 (by decide) tw_819 ⟨Nat.le_of_ble_eq_true rfl, Nat.le_of_ble_eq_true rfl⟩ (Nat.le_of_ble_eq_true rfl) dw_Schemes_cutTo_26 rfl (fun r4 => ?_)
  refine tp_19 hX 32 tw_411 dw_Schemes_cutTo_29 rfl (fun σ5 => ?_)
  exact gx_retv hX dw_Schemes_cutTo_32
def my_Schemes_cutTo : MethodName := ⟨"TypeLoom$Schemes", "cutTo", "(I)V"⟩
theorem hy_Schemes_cutTo : (my_Schemes_cutTo.cls ≠ "java/lang/invoke/MethodHandle" ∧ my_Schemes_cutTo.cls ≠ "java/lang/invoke/VarHandle") ∧ (parseMethodDescriptor my_Schemes_cutTo.desc).map (fun d => d.parameters.length) = some 1 := by decide +kernel
theorem tm_Schemes_cutTo {D : va_G} {ob : Nat → Nat} {cA : ClassId} (l : Launch) (σ : gx_S) (L1 : Int32) : gx_C l (tc_V D ob cA) my_Schemes_cutTo prog_5_method_13_code 2 none 1 21 [.ref (ob 7), .int L1] σ (kt_Schemes_cutTo σ L1) := gx_met (by decide) rfl (Nat.le_of_ble_eq_true rfl) rfl (fun X _ hX => tl_Schemes_cutTo hX σ L1)
theorem tr_Schemes_cutTo {D : va_G} {ob : Nat → Nat} {cA : ClassId} {X : gx_X} {cc : ByteArray} {own : String} {nL fr lo : Nat} {rt : Option FieldType} {σ : gx_S} {pc : Nat} {lv : List (Nat × Value)} {st : List Value} (hX : gx_K (tc_V D ob cA) X cc own nL fr lo rt) {idx : Nat} {L1 : Int32} {k : gx_S → Int32 → gx_R} (n : Nat) (hlink : Cond.methodLink own idx ({ cls := "TypeLoom$Schemes", name := "cutTo", desc := "(I)V" } : Jvm.MethodName) ∈ gx_T) (hroom : 1 + 1 ≤ fr ∧ 8 + (2 + 11) + 21 ≤ lo) (hst : (st.map fun v => v.category).sum ≤ 8) (hd : decode cc pc = .ok (.invokevirtual idx, 3)) (hn : pc + 3 = n) (kk : ∀ σ' r, gx_G (tc_V D ob cA) X (k σ' r) σ' n lv (st)) : gx_G (tc_V D ob cA) X (gx_bd (kt_Schemes_cutTo σ L1) k) σ pc lv (.int L1 :: .ref (ob 7) :: st) :=
  gx_callW hX [.int L1] n (tm_Schemes_cutTo _ σ L1) hy_Schemes_cutTo tw_889 hlink tw_887 tw_888 tw_78 (gf_recv 7 (show 7 < 55 by decide) rfl rfl) hroom hst hd hn rfl (fun σ' r _ => kk σ' r)
def kt_T_leaf (σ : gx_S) (L1 : Int32) (L2 : Int32) (L3 : Int32) : gx_R :=
  gx_bd (kt_Web_hasRoom σ 1 0) (fun σ1 r2 =>
  if r2 = 0 then
    some (σ1, (-2))
  else
    gx_jn (fun (σ3 : gx_S) (S0 : Int32) (S1 : Int32) (S2 : Int32) (S3 : Int32) =>
      gx_bd (kt_Web_addNode σ3 S3 S2 S1 S0) (fun σ4 r5 =>
      gx_bd (kt_Web_addType σ4 r5) (fun σ6 r7 =>
      some (σ6, r7)))) (fun j38 =>
    if L3 = 0 then
      j38 σ1 0 ((σ1.1 20)) L2 L1
    else
      j38 σ1 1 ((σ1.1 20)) L2 L1))
set_option maxRecDepth 100000 in
set_option maxHeartbeats 4000000 in
theorem tl_T_leaf {D : va_G} {ob : Nat → Nat} {cA : ClassId} {X : gx_X} (hX : gx_K (tc_V D ob cA) X prog_1_method_9_code "TypeLoom" 4 2 47 (some .int)) (σ : gx_S) (L1 : Int32) (L2 : Int32) (L3 : Int32) : gx_G (tc_V D ob cA) X (kt_T_leaf σ L1 L2 L3) σ 0 [(0, .ref (ob 0)), (1, .int L1), (2, .int L2), (3, .int L3)] [] := by
  unfold kt_T_leaf
  refine gx_aload_n hX 0 1 dw_T_leaf_0 rfl rfl rfl ?_
  refine tg_0 hX 2 4 (by decide) tw_452 rfl dw_T_leaf_1 rfl ?_
  refine gx_iconst hX 1 5 dw_T_leaf_4 (by decide) rfl ?_
  refine gx_iconst hX 0 6 dw_T_leaf_5 (by decide) rfl ?_
  refine tr_Web_hasRoom hX 9 tw_546 ⟨Nat.le_of_ble_eq_true rfl, Nat.le_of_ble_eq_true rfl⟩ (Nat.le_of_ble_eq_true rfl) dw_T_leaf_6 rfl (fun σ1 r2 => ?_)
  refine gx_if_ne hX 15 12 dw_T_leaf_9 (by decide) rfl (fun _ => ?_) (fun _ => ?_)
  · refine gx_aload_n hX 0 16 dw_T_leaf_15 rfl rfl rfl ?_
    refine tg_0 hX 2 19 (by decide) tw_452 rfl dw_T_leaf_16 rfl ?_
    refine gx_aload_n hX 0 20 dw_T_leaf_19 rfl rfl rfl ?_
    refine tg_0 hX 2 23 (by decide) tw_452 rfl dw_T_leaf_20 rfl ?_
    refine gx_iload_n hX 1 24 dw_T_leaf_23 rfl rfl rfl ?_
    refine gx_iload_n hX 2 25 dw_T_leaf_24 rfl rfl rfl ?_
    refine gx_aload_n hX 0 26 dw_T_leaf_25 rfl rfl rfl ?_
    refine tg_0 hX 7 29 (by decide) tw_457 rfl dw_T_leaf_26 rfl ?_
    refine gx_iload_n hX 3 30 dw_T_leaf_29 rfl rfl rfl ?_
    refine gx_jnI (fun (j : gx_S → Int32 → Int32 → Int32 → Int32 → gx_R) => ∀ (σ3 : gx_S) (S0 : Int32) (S1 : Int32) (S2 : Int32) (S3 : Int32), gx_G (tc_V D ob cA) X (j σ3 S0 S1 S2 S3) σ3 38 [] [.int S0, .int S1, .int S2, .int S3, .ref (ob 3), .ref (ob 3)]) (fun σ3 S0 S1 S2 S3 => ?_) (fun j38 h38 => ?_)
    · refine tr_Web_addNode hX 41 tw_551 ⟨Nat.le_of_ble_eq_true rfl, Nat.le_of_ble_eq_true rfl⟩ (Nat.le_of_ble_eq_true rfl) dw_T_leaf_38 rfl (fun σ4 r5 => ?_)
      refine tr_Web_addType hX 44 tw_565 ⟨Nat.le_of_ble_eq_true rfl, Nat.le_of_ble_eq_true rfl⟩ (Nat.le_of_ble_eq_true rfl) dw_T_leaf_41 rfl (fun σ6 r7 => ?_)
      exact gx_ret hX dw_T_leaf_44
    refine gx_if_eq hX 37 33 dw_T_leaf_30 (by decide) rfl (fun _ => ?_) (fun _ => ?_)
    · refine gx_iconst hX 0 38 dw_T_leaf_37 (by decide) rfl ?_
      exact gx_pick (lv' := []) hX [] rfl (h38 σ1 0 ((σ1.1 20)) L2 L1)
    · refine gx_iconst hX 1 34 dw_T_leaf_33 (by decide) rfl ?_
      refine gx_goto hX 38 dw_T_leaf_34 (by decide) ?_
      exact gx_pick (lv' := []) hX [] rfl (h38 σ1 1 ((σ1.1 20)) L2 L1)
  · refine gx_bipush hX (-2) 14 dw_T_leaf_12 (by decide) rfl ?_
    exact gx_ret hX dw_T_leaf_14
def my_T_leaf : MethodName := ⟨"TypeLoom", "leaf", "(IIZ)I"⟩
theorem hy_T_leaf : (my_T_leaf.cls ≠ "java/lang/invoke/MethodHandle" ∧ my_T_leaf.cls ≠ "java/lang/invoke/VarHandle") ∧ (parseMethodDescriptor my_T_leaf.desc).map (fun d => d.parameters.length) = some 3 := by decide +kernel
theorem tm_T_leaf {D : va_G} {ob : Nat → Nat} {cA : ClassId} (l : Launch) (σ : gx_S) (L1 : Int32) (L2 : Int32) (L3 : Int32) : gx_C l (tc_V D ob cA) my_T_leaf prog_1_method_9_code 4 (some .int) 2 47 [.ref (ob 0), .int L1, .int L2, .int L3] σ (kt_T_leaf σ L1 L2 L3) := gx_met (by decide) rfl (Nat.le_of_ble_eq_true rfl) rfl (fun X _ hX => tl_T_leaf hX σ L1 L2 L3)
theorem tr_T_leaf {D : va_G} {ob : Nat → Nat} {cA : ClassId} {X : gx_X} {cc : ByteArray} {own : String} {nL fr lo : Nat} {rt : Option FieldType} {σ : gx_S} {pc : Nat} {lv : List (Nat × Value)} {st : List Value} (hX : gx_K (tc_V D ob cA) X cc own nL fr lo rt) {idx : Nat} {L1 : Int32} {L2 : Int32} {L3 : Int32} {k : gx_S → Int32 → gx_R} (n : Nat) (hlink : Cond.methodLink own idx ({ cls := "TypeLoom", name := "leaf", desc := "(IIZ)I" } : Jvm.MethodName) ∈ gx_T) (hroom : 2 + 1 ≤ fr ∧ 8 + (4 + 11) + 47 ≤ lo) (hst : (st.map fun v => v.category).sum ≤ 8) (hd : decode cc pc = .ok (.invokevirtual idx, 3)) (hn : pc + 3 = n) (kk : ∀ σ' r, gx_G (tc_V D ob cA) X (k σ' r) σ' n lv (.int r :: st)) : gx_G (tc_V D ob cA) X (gx_bd (kt_T_leaf σ L1 L2 L3) k) σ pc lv (.int L3 :: .int L2 :: .int L1 :: .ref (ob 0) :: st) :=
  gx_callI hX [.int L1, .int L2, .int L3] n rfl (tm_T_leaf _ σ L1 L2 L3) hy_T_leaf tw_590 hlink tw_589 tw_0 tw_70 (gf_recv 0 (show 0 < 55 by decide) rfl rfl) hroom hst hd hn rfl (fun σ' r _ => kk σ' r)
def kt_T_constructor (σ : gx_S) (L1 : Int32) (L2 : Int32) : gx_R :=
  if L1 < 0 then
    some (σ, (-1))
  else
    if 8 < L1 then
      some (σ, (-1))
    else
      if L2 < 0 then
        some (σ, (-1))
      else
        if L2 ≤ 2 then
          gx_bd (kt_Constructors_add σ L1 L2) (fun σ1 r2 =>
          some (σ1, r2))
        else
          some (σ, (-1))
set_option maxRecDepth 100000 in
set_option maxHeartbeats 4000000 in
theorem tl_T_constructor {D : va_G} {ob : Nat → Nat} {cA : ClassId} {X : gx_X} (hX : gx_K (tc_V D ob cA) X prog_1_method_2_code "TypeLoom" 3 2 44 (some .int)) (σ : gx_S) (L1 : Int32) (L2 : Int32) : gx_G (tc_V D ob cA) X (kt_T_constructor σ L1 L2) σ 0 [(0, .ref (ob 0)), (1, .int L1), (2, .int L2)] [] := by
  unfold kt_T_constructor
  refine gx_iload_n hX 1 1 dw_T_constructor_0 rfl rfl rfl ?_
  refine gx_if_lt hX 19 4 dw_T_constructor_1 (by decide) rfl (fun _ => ?_) (fun _ => ?_)
  · refine gx_iconst hX (-1) 20 dw_T_constructor_19 (by decide) rfl ?_
    exact gx_ret hX dw_T_constructor_20
  · refine gx_iload_n hX 1 5 dw_T_constructor_4 rfl rfl rfl ?_
    refine gx_bipush hX 8 7 dw_T_constructor_5 (by decide) rfl ?_
    refine gx_icmp_gt hX 19 10 dw_T_constructor_7 (by decide) rfl (fun _ => ?_) (fun _ => ?_)
    · refine gx_iconst hX (-1) 20 dw_T_constructor_19 (by decide) rfl ?_
      exact gx_ret hX dw_T_constructor_20
    · refine gx_iload_n hX 2 11 dw_T_constructor_10 rfl rfl rfl ?_
      refine gx_if_lt hX 19 14 dw_T_constructor_11 (by decide) rfl (fun _ => ?_) (fun _ => ?_)
      · refine gx_iconst hX (-1) 20 dw_T_constructor_19 (by decide) rfl ?_
        exact gx_ret hX dw_T_constructor_20
      · refine gx_iload_n hX 2 15 dw_T_constructor_14 rfl rfl rfl ?_
        refine gx_iconst hX 2 16 dw_T_constructor_15 (by decide) rfl ?_
        refine gx_icmp_le hX 21 19 dw_T_constructor_16 (by decide) rfl (fun _ => ?_) (fun _ => ?_)
        · refine gx_aload_n hX 0 22 dw_T_constructor_21 rfl rfl rfl ?_
          refine tg_0 hX 0 25 (by decide) tw_450 rfl dw_T_constructor_22 rfl ?_
          refine gx_iload_n hX 1 26 dw_T_constructor_25 rfl rfl rfl ?_
          refine gx_iload_n hX 2 27 dw_T_constructor_26 rfl rfl rfl ?_
          refine tr_Constructors_add hX 30 tw_479 ⟨Nat.le_of_ble_eq_true rfl, Nat.le_of_ble_eq_true rfl⟩ (Nat.le_of_ble_eq_true rfl) dw_T_constructor_27 rfl (fun σ1 r2 => ?_)
          exact gx_ret hX dw_T_constructor_30
        · refine gx_iconst hX (-1) 20 dw_T_constructor_19 (by decide) rfl ?_
          exact gx_ret hX dw_T_constructor_20
def my_T_constructor : MethodName := ⟨"TypeLoom", "constructor", "(II)I"⟩
theorem hy_T_constructor : (my_T_constructor.cls ≠ "java/lang/invoke/MethodHandle" ∧ my_T_constructor.cls ≠ "java/lang/invoke/VarHandle") ∧ (parseMethodDescriptor my_T_constructor.desc).map (fun d => d.parameters.length) = some 2 := by decide +kernel
theorem tm_T_constructor {D : va_G} {ob : Nat → Nat} {cA : ClassId} (l : Launch) (σ : gx_S) (L1 : Int32) (L2 : Int32) : gx_C l (tc_V D ob cA) my_T_constructor prog_1_method_2_code 3 (some .int) 2 44 [.ref (ob 0), .int L1, .int L2] σ (kt_T_constructor σ L1 L2) := gx_met (by decide) rfl (Nat.le_of_ble_eq_true rfl) rfl (fun X _ hX => tl_T_constructor hX σ L1 L2)
theorem tr_T_constructor {D : va_G} {ob : Nat → Nat} {cA : ClassId} {X : gx_X} {cc : ByteArray} {own : String} {nL fr lo : Nat} {rt : Option FieldType} {σ : gx_S} {pc : Nat} {lv : List (Nat × Value)} {st : List Value} (hX : gx_K (tc_V D ob cA) X cc own nL fr lo rt) {idx : Nat} {L1 : Int32} {L2 : Int32} {k : gx_S → Int32 → gx_R} (n : Nat) (hlink : Cond.methodLink own idx ({ cls := "TypeLoom", name := "constructor", desc := "(II)I" } : Jvm.MethodName) ∈ gx_T) (hroom : 2 + 1 ≤ fr ∧ 8 + (3 + 11) + 44 ≤ lo) (hst : (st.map fun v => v.category).sum ≤ 8) (hd : decode cc pc = .ok (.invokevirtual idx, 3)) (hn : pc + 3 = n) (kk : ∀ σ' r, gx_G (tc_V D ob cA) X (k σ' r) σ' n lv (.int r :: st)) : gx_G (tc_V D ob cA) X (gx_bd (kt_T_constructor σ L1 L2) k) σ pc lv (.int L2 :: .int L1 :: .ref (ob 0) :: st) :=
  gx_callI hX [.int L1, .int L2] n rfl (tm_T_constructor _ σ L1 L2) hy_T_constructor tw_478 hlink tw_476 tw_477 tw_70 (gf_recv 0 (show 0 < 55 by decide) rfl rfl) hroom hst hd hn rfl (fun σ' r _ => kk σ' r)
def kt_T_push (σ : gx_S) (L1 : Int32) (L2 : Int32) : gx_R :=
  if L1 < (-1) then
    some (σ, (-1))
  else
    if 32767 < L1 then
      some (σ, (-1))
    else
      gx_bd (kt_Web_isType σ L2) (fun σ1 r2 =>
      if r2 = 0 then
        some (σ1, (-1))
      else
        none)
set_option maxRecDepth 100000 in
set_option maxHeartbeats 4000000 in
theorem tl_T_push {D : va_G} {ob : Nat → Nat} {cA : ClassId} {X : gx_X} (hX : gx_K (tc_V D ob cA) X prog_1_method_3_code "TypeLoom" 3 1 21 (some .int)) (σ : gx_S) (L1 : Int32) (L2 : Int32) : gx_G (tc_V D ob cA) X (kt_T_push σ L1 L2) σ 0 [(0, .ref (ob 0)), (1, .int L1), (2, .int L2)] [] := by
  unfold kt_T_push
  refine gx_iload_n hX 1 1 dw_T_push_0 rfl rfl rfl ?_
  refine gx_iconst hX (-1) 2 dw_T_push_1 (by decide) rfl ?_
  refine gx_icmp_lt hX 34 5 dw_T_push_2 (by decide) rfl (fun _ => ?_) (fun _ => ?_)
  · refine gx_iconst hX (-1) 35 dw_T_push_34 (by decide) rfl ?_
    exact gx_ret hX dw_T_push_35
  · refine gx_iload_n hX 1 6 dw_T_push_5 rfl rfl rfl ?_
    refine gx_sipush hX 32767 9 dw_T_push_6 (by decide) rfl ?_
    refine gx_icmp_gt hX 34 12 dw_T_push_9 (by decide) rfl (fun _ => ?_) (fun _ => ?_)
    · refine gx_iconst hX (-1) 35 dw_T_push_34 (by decide) rfl ?_
      exact gx_ret hX dw_T_push_35
    · refine gx_aload_n hX 0 13 dw_T_push_12 rfl rfl rfl ?_
      refine tg_0 hX 2 16 (by decide) tw_452 rfl dw_T_push_13 rfl ?_
      refine gx_iload_n hX 2 17 dw_T_push_16 rfl rfl rfl ?_
      refine tr_Web_isType hX 20 tw_511 ⟨Nat.le_of_ble_eq_true rfl, Nat.le_of_ble_eq_true rfl⟩ (Nat.le_of_ble_eq_true rfl) dw_T_push_17 rfl (fun σ1 r2 => ?_)
      refine gx_if_eq hX 34 23 dw_T_push_20 (by decide) rfl (fun _ => ?_) (fun _ => ?_)
      · refine gx_iconst hX (-1) 35 dw_T_push_34 (by decide) rfl ?_
        exact gx_ret hX dw_T_push_35
      · refine gx_aload_n hX 0 24 dw_T_push_23 rfl rfl rfl ?_
        refine tg_0 hX 1 27 (by decide) tw_451 rfl dw_T_push_24 rfl ?_
        refine gx_iload_n hX 1 28 dw_T_push_27 rfl rfl rfl ?_
        exact gx_none
def my_T_push : MethodName := ⟨"TypeLoom", "push", "(II)I"⟩
theorem hy_T_push : (my_T_push.cls ≠ "java/lang/invoke/MethodHandle" ∧ my_T_push.cls ≠ "java/lang/invoke/VarHandle") ∧ (parseMethodDescriptor my_T_push.desc).map (fun d => d.parameters.length) = some 2 := by decide +kernel
theorem tm_T_push {D : va_G} {ob : Nat → Nat} {cA : ClassId} (l : Launch) (σ : gx_S) (L1 : Int32) (L2 : Int32) : gx_C l (tc_V D ob cA) my_T_push prog_1_method_3_code 3 (some .int) 1 21 [.ref (ob 0), .int L1, .int L2] σ (kt_T_push σ L1 L2) := gx_met (by decide) rfl (Nat.le_of_ble_eq_true rfl) rfl (fun X _ hX => tl_T_push hX σ L1 L2)
theorem tr_T_push {D : va_G} {ob : Nat → Nat} {cA : ClassId} {X : gx_X} {cc : ByteArray} {own : String} {nL fr lo : Nat} {rt : Option FieldType} {σ : gx_S} {pc : Nat} {lv : List (Nat × Value)} {st : List Value} (hX : gx_K (tc_V D ob cA) X cc own nL fr lo rt) {idx : Nat} {L1 : Int32} {L2 : Int32} {k : gx_S → Int32 → gx_R} (n : Nat) (hlink : Cond.methodLink own idx ({ cls := "TypeLoom", name := "push", desc := "(II)I" } : Jvm.MethodName) ∈ gx_T) (hroom : 1 + 1 ≤ fr ∧ 8 + (3 + 11) + 21 ≤ lo) (hst : (st.map fun v => v.category).sum ≤ 8) (hd : decode cc pc = .ok (.invokevirtual idx, 3)) (hn : pc + 3 = n) (kk : ∀ σ' r, gx_G (tc_V D ob cA) X (k σ' r) σ' n lv (.int r :: st)) : gx_G (tc_V D ob cA) X (gx_bd (kt_T_push σ L1 L2) k) σ pc lv (.int L2 :: .int L1 :: .ref (ob 0) :: st) :=
  gx_callI hX [.int L1, .int L2] n rfl (tm_T_push _ σ L1 L2) hy_T_push tw_510 hlink tw_508 tw_509 tw_70 (gf_recv 0 (show 0 < 55 by decide) rfl rfl) hroom hst hd hn rfl (fun σ' r _ => kk σ' r)
def kt_T_built (σ : gx_S) (L1 : Int32) : gx_R :=
  gx_bd (kt_Constructors_has σ L1) (fun σ1 r2 =>
  if r2 = 0 then
    some (σ1, (-1))
  else
    if 0 < (σ1.1 2) then
      some (σ1, (-1))
    else
      none)
set_option maxRecDepth 100000 in
set_option maxHeartbeats 4000000 in
theorem tl_T_built {D : va_G} {ob : Nat → Nat} {cA : ClassId} {X : gx_X} (hX : gx_K (tc_V D ob cA) X prog_1_method_4_code "TypeLoom" 4 1 21 (some .int)) (σ : gx_S) (L1 : Int32) : gx_G (tc_V D ob cA) X (kt_T_built σ L1) σ 0 [(0, .ref (ob 0)), (1, .int L1)] [] := by
  unfold kt_T_built
  refine gx_aload_n hX 0 1 dw_T_built_0 rfl rfl rfl ?_
  refine tg_0 hX 0 4 (by decide) tw_450 rfl dw_T_built_1 rfl ?_
  refine gx_iload_n hX 1 5 dw_T_built_4 rfl rfl rfl ?_
  refine tr_Constructors_has hX 8 tw_537 ⟨Nat.le_of_ble_eq_true rfl, Nat.le_of_ble_eq_true rfl⟩ (Nat.le_of_ble_eq_true rfl) dw_T_built_5 rfl (fun σ1 r2 => ?_)
  refine gx_if_eq hX 39 11 dw_T_built_8 (by decide) rfl (fun _ => ?_) (fun _ => ?_)
  · refine gx_iconst hX (-1) 40 dw_T_built_39 (by decide) rfl ?_
    exact gx_ret hX dw_T_built_40
  · refine gx_aload_n hX 0 12 dw_T_built_11 rfl rfl rfl ?_
    refine tg_0 hX 1 15 (by decide) tw_451 rfl dw_T_built_12 rfl ?_
    refine tg_2 hX 3 18 (by decide) tw_137 rfl dw_T_built_15 rfl ?_
    refine gx_if_gt hX 39 21 dw_T_built_18 (by decide) rfl (fun _ => ?_) (fun _ => ?_)
    · refine gx_iconst hX (-1) 40 dw_T_built_39 (by decide) rfl ?_
      exact gx_ret hX dw_T_built_40
    · refine gx_aload_n hX 0 22 dw_T_built_21 rfl rfl rfl ?_
      refine tg_0 hX 1 25 (by decide) tw_451 rfl dw_T_built_22 rfl ?_
      refine tg_2 hX 2 28 (by decide) tw_135 rfl dw_T_built_25 rfl ?_
      refine gx_aload_n hX 0 29 dw_T_built_28 rfl rfl rfl ?_
      refine tg_0 hX 0 32 (by decide) tw_450 rfl dw_T_built_29 rfl ?_
      refine gx_iload_n hX 1 33 dw_T_built_32 rfl rfl rfl ?_
      exact gx_none
def my_T_built : MethodName := ⟨"TypeLoom", "built", "(I)I"⟩
theorem hy_T_built : (my_T_built.cls ≠ "java/lang/invoke/MethodHandle" ∧ my_T_built.cls ≠ "java/lang/invoke/VarHandle") ∧ (parseMethodDescriptor my_T_built.desc).map (fun d => d.parameters.length) = some 1 := by decide +kernel
theorem tm_T_built {D : va_G} {ob : Nat → Nat} {cA : ClassId} (l : Launch) (σ : gx_S) (L1 : Int32) : gx_C l (tc_V D ob cA) my_T_built prog_1_method_4_code 4 (some .int) 1 21 [.ref (ob 0), .int L1] σ (kt_T_built σ L1) := gx_met (by decide) rfl (Nat.le_of_ble_eq_true rfl) rfl (fun X _ hX => tl_T_built hX σ L1)
theorem tr_T_built {D : va_G} {ob : Nat → Nat} {cA : ClassId} {X : gx_X} {cc : ByteArray} {own : String} {nL fr lo : Nat} {rt : Option FieldType} {σ : gx_S} {pc : Nat} {lv : List (Nat × Value)} {st : List Value} (hX : gx_K (tc_V D ob cA) X cc own nL fr lo rt) {idx : Nat} {L1 : Int32} {k : gx_S → Int32 → gx_R} (n : Nat) (hlink : Cond.methodLink own idx ({ cls := "TypeLoom", name := "built", desc := "(I)I" } : Jvm.MethodName) ∈ gx_T) (hroom : 1 + 1 ≤ fr ∧ 8 + (4 + 11) + 21 ≤ lo) (hst : (st.map fun v => v.category).sum ≤ 8) (hd : decode cc pc = .ok (.invokevirtual idx, 3)) (hn : pc + 3 = n) (kk : ∀ σ' r, gx_G (tc_V D ob cA) X (k σ' r) σ' n lv (.int r :: st)) : gx_G (tc_V D ob cA) X (gx_bd (kt_T_built σ L1) k) σ pc lv (.int L1 :: .ref (ob 0) :: st) :=
  gx_callI hX [.int L1] n rfl (tm_T_built _ σ L1) hy_T_built tw_536 hlink tw_534 tw_535 tw_70 (gf_recv 0 (show 0 < 55 by decide) rfl rfl) hroom hst hd hn rfl (fun σ' r _ => kk σ' r)
def kt_T_record (σ : gx_S) (L1 : Int32) : gx_R :=
  if (σ.1 1) ≤ (σ.1 2) then
    gx_bd (kt_Web_hasRoom σ 1 ((σ.1 1))) (fun σ1 r2 =>
    if r2 = 0 then
      some (σ1, (-2))
    else
      gx_jn (fun (σ3 : gx_S) (L1 : Int32) =>
        gx_bd (kt_Web_addNode σ3 4 0 101 0) (fun σ4 r5 =>
        gx_jn (fun (σ6 : gx_S) (L1 : Int32) (L2 : Int32) =>
          gx_bd (kt_Pushed_drop σ6) (fun σ7 _ =>
          gx_jn (fun (σ9 : gx_S) (L2 : Int32) =>
            gx_bd (kt_Web_addType σ9 L2) (fun σ10 r11 =>
            some (σ10, r11))) (fun j168 =>
          if L1 = 0 then
            j168 σ7 L2
          else
            gx_bd (kt_Web_addNode σ7 5 0 ((σ7.1 20)) 0) (fun σ12 r13 =>
            gx_bd (tc_pt σ12 10 L2 r13) (fun σ14 _ =>
            gx_sb (gx_si σ14 7 ((((σ14.1 7)) + 1))) (fun σ16 =>
            j168 σ16 L2)))))) (fun j119 =>
        gx_lp (α := gx_S → Int32 → Int32 → Int32 → gx_R) (fun _ _ _ _ => none) (fun again72 (σ17 : gx_S) (L1 : Int32) (L2 : Int32) (L3 : Int32) =>
          if (σ17.1 1) ≤ L3 then
          j119 σ17 L1 L2
        else
          gx_bv (tc_at σ17 2 L3) (fun r18 =>
          gx_bv (tc_at σ17 3 L3) (fun r19 =>
          none))) gx_F σ4 L1 r5 0))) (fun j57 =>
      if L1 = 0 then
        j57 σ1 L1
      else
        if (σ1.1 7) < 512 then
          j57 σ1 L1
        else
          some (σ1, (-2))))
  else
    some (σ, (-1))
set_option maxRecDepth 100000 in
set_option maxHeartbeats 4000000 in
theorem tl_T_record {D : va_G} {ob : Nat → Nat} {cA : ClassId} {X : gx_X} (hX : gx_K (tc_V D ob cA) X prog_1_method_5_code "TypeLoom" 4 2 47 (some .int)) (σ : gx_S) (L1 : Int32) : gx_G (tc_V D ob cA) X (kt_T_record σ L1) σ 0 [(0, .ref (ob 0)), (1, .int L1)] [] := by
  unfold kt_T_record
  refine gx_aload_n hX 0 1 dw_T_record_0 rfl rfl rfl ?_
  refine tg_0 hX 1 4 (by decide) tw_451 rfl dw_T_record_1 rfl ?_
  refine tg_2 hX 3 7 (by decide) tw_137 rfl dw_T_record_4 rfl ?_
  refine gx_aload_n hX 0 8 dw_T_record_7 rfl rfl rfl ?_
  refine tg_0 hX 1 11 (by decide) tw_451 rfl dw_T_record_8 rfl ?_
  refine tg_2 hX 2 14 (by decide) tw_135 rfl dw_T_record_11 rfl ?_
  refine gx_icmp_ge hX 19 17 dw_T_record_14 (by decide) rfl (fun _ => ?_) (fun _ => ?_)
  · refine gx_aload_n hX 0 20 dw_T_record_19 rfl rfl rfl ?_
    refine tg_0 hX 2 23 (by decide) tw_452 rfl dw_T_record_20 rfl ?_
    refine gx_iconst hX 1 24 dw_T_record_23 (by decide) rfl ?_
    refine gx_aload_n hX 0 25 dw_T_record_24 rfl rfl rfl ?_
    refine tg_0 hX 1 28 (by decide) tw_451 rfl dw_T_record_25 rfl ?_
    refine tg_2 hX 2 31 (by decide) tw_135 rfl dw_T_record_28 rfl ?_
    refine tr_Web_hasRoom hX 34 tw_546 ⟨Nat.le_of_ble_eq_true rfl, Nat.le_of_ble_eq_true rfl⟩ (Nat.le_of_ble_eq_true rfl) dw_T_record_31 rfl (fun σ1 r2 => ?_)
    refine gx_if_eq hX 54 37 dw_T_record_34 (by decide) rfl (fun _ => ?_) (fun _ => ?_)
    · refine gx_bipush hX (-2) 56 dw_T_record_54 (by decide) rfl ?_
      exact gx_ret hX dw_T_record_56
    · refine gx_iload_n hX 1 38 dw_T_record_37 rfl rfl rfl ?_
      refine gx_jnI (fun (j : gx_S → Int32 → gx_R) => ∀ (σ3 : gx_S) (L1 : Int32), gx_G (tc_V D ob cA) X (j σ3 L1) σ3 57 [(0, .ref (ob 0)), (1, .int L1)] []) (fun σ3 L1 => ?_) (fun j57 h57 => ?_)
      · refine gx_aload_n hX 0 58 dw_T_record_57 rfl rfl rfl ?_
        refine tg_0 hX 2 61 (by decide) tw_452 rfl dw_T_record_58 rfl ?_
        refine gx_iconst hX 4 62 dw_T_record_61 (by decide) rfl ?_
        refine gx_iconst hX 0 63 dw_T_record_62 (by decide) rfl ?_
        refine gx_bipush hX 101 65 dw_T_record_63 (by decide) rfl ?_
        refine gx_iconst hX 0 66 dw_T_record_65 (by decide) rfl ?_
        refine tr_Web_addNode hX 69 tw_551 ⟨Nat.le_of_ble_eq_true rfl, Nat.le_of_ble_eq_true rfl⟩ (Nat.le_of_ble_eq_true rfl) dw_T_record_66 rfl (fun σ4 r5 => ?_)
        refine gx_istore_n hX [(2, .int r5), (0, .ref (ob 0)), (1, .int L1)] 70 dw_T_record_69 rfl (by decide) rfl rfl ?_
        refine gx_iconst hX 0 71 dw_T_record_70 (by decide) rfl ?_
        refine gx_istore_n hX [(3, .int 0), (2, .int r5), (0, .ref (ob 0)), (1, .int L1)] 72 dw_T_record_71 rfl (by decide) rfl rfl ?_
        refine gx_jnI (fun (j : gx_S → Int32 → Int32 → gx_R) => ∀ (σ6 : gx_S) (L1 : Int32) (L2 : Int32), gx_G (tc_V D ob cA) X (j σ6 L1 L2) σ6 119 [(0, .ref (ob 0)), (1, .int L1), (2, .int L2)] []) (fun σ6 L1 L2 => ?_) (fun j119 h119 => ?_)
        · refine gx_aload_n hX 0 120 dw_T_record_119 rfl rfl rfl ?_
          refine tg_0 hX 1 123 (by decide) tw_451 rfl dw_T_record_120 rfl ?_
          refine tr_Pushed_drop hX 126 tw_561 ⟨Nat.le_of_ble_eq_true rfl, Nat.le_of_ble_eq_true rfl⟩ (Nat.le_of_ble_eq_true rfl) dw_T_record_123 rfl (fun σ7 _ => ?_)
          refine gx_iload_n hX 1 127 dw_T_record_126 rfl rfl rfl ?_
          refine gx_jnI (fun (j : gx_S → Int32 → gx_R) => ∀ (σ9 : gx_S) (L2 : Int32), gx_G (tc_V D ob cA) X (j σ9 L2) σ9 168 [(0, .ref (ob 0)), (2, .int L2)] []) (fun σ9 L2 => ?_) (fun j168 h168 => ?_)
          · refine gx_aload_n hX 0 169 dw_T_record_168 rfl rfl rfl ?_
            refine tg_0 hX 2 172 (by decide) tw_452 rfl dw_T_record_169 rfl ?_
            refine gx_iload_n hX 1 173 dw_T_record_172 rfl rfl rfl ?_
            refine tr_Web_addType hX 176 tw_565 ⟨Nat.le_of_ble_eq_true rfl, Nat.le_of_ble_eq_true rfl⟩ (Nat.le_of_ble_eq_true rfl) dw_T_record_173 rfl (fun σ10 r11 => ?_)
            exact gx_ret hX dw_T_record_176
          refine gx_if_eq hX 168 130 dw_T_record_127 (by decide) rfl (fun _ => ?_) (fun _ => ?_)
          · exact gx_pick (lv' := [(0, .ref (ob 0)), (2, .int L2)]) hX [0, 2] rfl (h168 σ7 L2)
          · refine gx_aload_n hX 0 131 dw_T_record_130 rfl rfl rfl ?_
            refine tg_0 hX 2 134 (by decide) tw_452 rfl dw_T_record_131 rfl ?_
            refine tg_3 hX 6 137 (by decide) tw_182 rfl dw_T_record_134 rfl ?_
            refine gx_iload_n hX 2 138 dw_T_record_137 rfl rfl rfl ?_
            refine gx_aload_n hX 0 139 dw_T_record_138 rfl rfl rfl ?_
            refine tg_0 hX 2 142 (by decide) tw_452 rfl dw_T_record_139 rfl ?_
            refine gx_iconst hX 5 143 dw_T_record_142 (by decide) rfl ?_
            refine gx_iconst hX 0 144 dw_T_record_143 (by decide) rfl ?_
            refine gx_aload_n hX 0 145 dw_T_record_144 rfl rfl rfl ?_
            refine tg_0 hX 7 148 (by decide) tw_457 rfl dw_T_record_145 rfl ?_
            refine gx_iconst hX 0 149 dw_T_record_148 (by decide) rfl ?_
            refine tr_Web_addNode hX 152 tw_551 ⟨Nat.le_of_ble_eq_true rfl, Nat.le_of_ble_eq_true rfl⟩ (Nat.le_of_ble_eq_true rfl) dw_T_record_149 rfl (fun σ12 r13 => ?_)
            refine tr_put hX 10 155 (by decide) tw_573 ⟨Nat.le_of_ble_eq_true rfl, Nat.le_of_ble_eq_true rfl⟩ (Nat.le_of_ble_eq_true rfl) dw_T_record_152 rfl (fun σ14 _ => ?_)
            refine gx_aload_n hX 0 156 dw_T_record_155 rfl rfl rfl ?_
            refine tg_0 hX 2 159 (by decide) tw_452 rfl dw_T_record_156 rfl ?_
            refine gx_dup hX 160 dw_T_record_159 rfl rfl ?_
            refine tg_3 hX 16 163 (by decide) tw_208 rfl dw_T_record_160 rfl ?_
            refine gx_iconst hX 1 164 dw_T_record_163 (by decide) rfl ?_
            refine gx_iadd hX 165 dw_T_record_164 rfl ?_
            refine tp_7 hX 168 tw_208 dw_T_record_165 rfl (fun σ16 => ?_)
            exact gx_pick (lv' := [(0, .ref (ob 0)), (2, .int L2)]) hX [0, 2] rfl (h168 σ16 L2)
        refine gx_pick (lv' := [(0, .ref (ob 0)), (1, .int L1), (2, .int r5), (3, .int 0)]) hX [2, 3, 1, 0] rfl (gx_lpI (fun (f : gx_S → Int32 → Int32 → Int32 → gx_R) => ∀ (σ17 : gx_S) (L1 : Int32) (L2 : Int32) (L3 : Int32), gx_G (tc_V D ob cA) X (f σ17 L1 L2 L3) σ17 72 [(0, .ref (ob 0)), (1, .int L1), (2, .int L2), (3, .int L3)] []) (fun _ _ _ _ => gx_none) (fun again72 ih72 σ17 L1 L2 L3 => ?_) _ σ4 L1 r5 0)
        refine gx_iload_n hX 3 73 dw_T_record_72 rfl rfl rfl ?_
        refine gx_aload_n hX 0 74 dw_T_record_73 rfl rfl rfl ?_
        refine tg_0 hX 1 77 (by decide) tw_451 rfl dw_T_record_74 rfl ?_
        refine tg_2 hX 2 80 (by decide) tw_135 rfl dw_T_record_77 rfl ?_
        refine gx_icmp_ge hX 119 83 dw_T_record_80 (by decide) rfl (fun _ => ?_) (fun _ => ?_)
        · exact gx_pick (lv' := [(0, .ref (ob 0)), (1, .int L1), (2, .int L2)]) hX [0, 1, 2] rfl (h119 σ17 L1 L2)
        · refine gx_aload_n hX 0 84 dw_T_record_83 rfl rfl rfl ?_
          refine tg_0 hX 2 87 (by decide) tw_452 rfl dw_T_record_84 rfl ?_
          refine gx_iload_n hX 2 88 dw_T_record_87 rfl rfl rfl ?_
          refine gx_aload_n hX 0 89 dw_T_record_88 rfl rfl rfl ?_
          refine tg_0 hX 1 92 (by decide) tw_451 rfl dw_T_record_89 rfl ?_
          refine tg_2 hX 0 95 (by decide) tw_131 rfl dw_T_record_92 rfl ?_
          refine gx_iload_n hX 3 96 dw_T_record_95 rfl rfl rfl ?_
          refine tr_at hX 2 99 (by decide) tw_556 ⟨Nat.le_of_ble_eq_true rfl, Nat.le_of_ble_eq_true rfl⟩ (Nat.le_of_ble_eq_true rfl) dw_T_record_96 rfl (fun r18 => ?_)
          refine gx_aload_n hX 0 100 dw_T_record_99 rfl rfl rfl ?_
          refine tg_0 hX 1 103 (by decide) tw_451 rfl dw_T_record_100 rfl ?_
          refine tg_2 hX 1 106 (by decide) tw_133 rfl dw_T_record_103 rfl ?_
          refine gx_iload_n hX 3 107 dw_T_record_106 rfl rfl rfl ?_
          refine tr_at hX 3 110 (by decide) tw_556 ⟨Nat.le_of_ble_eq_true rfl, Nat.le_of_ble_eq_true rfl⟩ (Nat.le_of_ble_eq_true rfl) dw_T_record_107 rfl (fun r19 => ?_)
          exact gx_none
      refine gx_if_eq hX 57 41 dw_T_record_38 (by decide) rfl (fun _ => ?_) (fun _ => ?_)
      · exact gx_pick (lv' := [(0, .ref (ob 0)), (1, .int L1)]) hX [0, 1] rfl (h57 σ1 L1)
      · refine gx_aload_n hX 0 42 dw_T_record_41 rfl rfl rfl ?_
        refine tg_0 hX 2 45 (by decide) tw_452 rfl dw_T_record_42 rfl ?_
        refine tg_3 hX 16 48 (by decide) tw_208 rfl dw_T_record_45 rfl ?_
        refine gx_sipush hX 512 51 dw_T_record_48 (by decide) rfl ?_
        refine gx_icmp_lt hX 57 54 dw_T_record_51 (by decide) rfl (fun _ => ?_) (fun _ => ?_)
        · exact gx_pick (lv' := [(0, .ref (ob 0)), (1, .int L1)]) hX [0, 1] rfl (h57 σ1 L1)
        · refine gx_bipush hX (-2) 56 dw_T_record_54 (by decide) rfl ?_
          exact gx_ret hX dw_T_record_56
  · refine gx_iconst hX (-1) 18 dw_T_record_17 (by decide) rfl ?_
    exact gx_ret hX dw_T_record_18
def my_T_record : MethodName := ⟨"TypeLoom", "record", "(Z)I"⟩
theorem hy_T_record : (my_T_record.cls ≠ "java/lang/invoke/MethodHandle" ∧ my_T_record.cls ≠ "java/lang/invoke/VarHandle") ∧ (parseMethodDescriptor my_T_record.desc).map (fun d => d.parameters.length) = some 1 := by decide +kernel
theorem tm_T_record {D : va_G} {ob : Nat → Nat} {cA : ClassId} (l : Launch) (σ : gx_S) (L1 : Int32) : gx_C l (tc_V D ob cA) my_T_record prog_1_method_5_code 4 (some .int) 2 47 [.ref (ob 0), .int L1] σ (kt_T_record σ L1) := gx_met (by decide) rfl (Nat.le_of_ble_eq_true rfl) rfl (fun X _ hX => tl_T_record hX σ L1)
theorem tr_T_record {D : va_G} {ob : Nat → Nat} {cA : ClassId} {X : gx_X} {cc : ByteArray} {own : String} {nL fr lo : Nat} {rt : Option FieldType} {σ : gx_S} {pc : Nat} {lv : List (Nat × Value)} {st : List Value} (hX : gx_K (tc_V D ob cA) X cc own nL fr lo rt) {idx : Nat} {L1 : Int32} {k : gx_S → Int32 → gx_R} (n : Nat) (hlink : Cond.methodLink own idx ({ cls := "TypeLoom", name := "record", desc := "(Z)I" } : Jvm.MethodName) ∈ gx_T) (hroom : 2 + 1 ≤ fr ∧ 8 + (4 + 11) + 47 ≤ lo) (hst : (st.map fun v => v.category).sum ≤ 8) (hd : decode cc pc = .ok (.invokevirtual idx, 3)) (hn : pc + 3 = n) (kk : ∀ σ' r, gx_G (tc_V D ob cA) X (k σ' r) σ' n lv (.int r :: st)) : gx_G (tc_V D ob cA) X (gx_bd (kt_T_record σ L1) k) σ pc lv (.int L1 :: .ref (ob 0) :: st) :=
  gx_callI hX [.int L1] n rfl (tm_T_record _ σ L1) hy_T_record tw_572 hlink tw_570 tw_571 tw_70 (gf_recv 0 (show 0 < 55 by decide) rfl rfl) hroom hst hd hn rfl (fun σ' r _ => kk σ' r)
def kt_T_function (σ : gx_S) (L1 : Int32) (L2 : Int32) : gx_R :=
  gx_bd (kt_Web_isType σ L1) (fun σ1 r2 =>
  if r2 = 0 then
    some (σ1, (-1))
  else
    gx_bd (kt_Web_isType σ1 L2) (fun σ3 r4 =>
    if r4 = 0 then
      some (σ3, (-1))
    else
      gx_bd (kt_Web_hasRoom σ3 1 2) (fun σ5 r6 =>
      if r6 = 0 then
        some (σ5, (-2))
      else
        gx_bd (kt_Web_addNode σ5 3 0 101 0) (fun σ7 r8 =>
        none))))
set_option maxRecDepth 100000 in
set_option maxHeartbeats 4000000 in
theorem tl_T_function {D : va_G} {ob : Nat → Nat} {cA : ClassId} {X : gx_X} (hX : gx_K (tc_V D ob cA) X prog_1_method_6_code "TypeLoom" 4 2 47 (some .int)) (σ : gx_S) (L1 : Int32) (L2 : Int32) : gx_G (tc_V D ob cA) X (kt_T_function σ L1 L2) σ 0 [(0, .ref (ob 0)), (1, .int L1), (2, .int L2)] [] := by
  unfold kt_T_function
  refine gx_aload_n hX 0 1 dw_T_function_0 rfl rfl rfl ?_
  refine tg_0 hX 2 4 (by decide) tw_452 rfl dw_T_function_1 rfl ?_
  refine gx_iload_n hX 1 5 dw_T_function_4 rfl rfl rfl ?_
  refine tr_Web_isType hX 8 tw_511 ⟨Nat.le_of_ble_eq_true rfl, Nat.le_of_ble_eq_true rfl⟩ (Nat.le_of_ble_eq_true rfl) dw_T_function_5 rfl (fun σ1 r2 => ?_)
  refine gx_if_eq hX 22 11 dw_T_function_8 (by decide) rfl (fun _ => ?_) (fun _ => ?_)
  · refine gx_iconst hX (-1) 23 dw_T_function_22 (by decide) rfl ?_
    exact gx_ret hX dw_T_function_23
  · refine gx_aload_n hX 0 12 dw_T_function_11 rfl rfl rfl ?_
    refine tg_0 hX 2 15 (by decide) tw_452 rfl dw_T_function_12 rfl ?_
    refine gx_iload_n hX 2 16 dw_T_function_15 rfl rfl rfl ?_
    refine tr_Web_isType hX 19 tw_511 ⟨Nat.le_of_ble_eq_true rfl, Nat.le_of_ble_eq_true rfl⟩ (Nat.le_of_ble_eq_true rfl) dw_T_function_16 rfl (fun σ3 r4 => ?_)
    refine gx_if_ne hX 24 22 dw_T_function_19 (by decide) rfl (fun _ => ?_) (fun _ => ?_)
    · refine gx_aload_n hX 0 25 dw_T_function_24 rfl rfl rfl ?_
      refine tg_0 hX 2 28 (by decide) tw_452 rfl dw_T_function_25 rfl ?_
      refine gx_iconst hX 1 29 dw_T_function_28 (by decide) rfl ?_
      refine gx_iconst hX 2 30 dw_T_function_29 (by decide) rfl ?_
      refine tr_Web_hasRoom hX 33 tw_546 ⟨Nat.le_of_ble_eq_true rfl, Nat.le_of_ble_eq_true rfl⟩ (Nat.le_of_ble_eq_true rfl) dw_T_function_30 rfl (fun σ5 r6 => ?_)
      refine gx_if_ne hX 39 36 dw_T_function_33 (by decide) rfl (fun _ => ?_) (fun _ => ?_)
      · refine gx_aload_n hX 0 40 dw_T_function_39 rfl rfl rfl ?_
        refine tg_0 hX 2 43 (by decide) tw_452 rfl dw_T_function_40 rfl ?_
        refine gx_iconst hX 3 44 dw_T_function_43 (by decide) rfl ?_
        refine gx_iconst hX 0 45 dw_T_function_44 (by decide) rfl ?_
        refine gx_bipush hX 101 47 dw_T_function_45 (by decide) rfl ?_
        refine gx_iconst hX 0 48 dw_T_function_47 (by decide) rfl ?_
        refine tr_Web_addNode hX 51 tw_551 ⟨Nat.le_of_ble_eq_true rfl, Nat.le_of_ble_eq_true rfl⟩ (Nat.le_of_ble_eq_true rfl) dw_T_function_48 rfl (fun σ7 r8 => ?_)
        refine gx_istore_n hX [(3, .int r8), (0, .ref (ob 0)), (1, .int L1), (2, .int L2)] 52 dw_T_function_51 rfl (by decide) rfl rfl ?_
        refine gx_aload_n hX 1 53 dw_T_function_52 rfl rfl rfl ?_
        refine tg_0 hX 2 56 (by decide) tw_452 rfl dw_T_function_53 rfl ?_
        refine gx_iload_n hX 0 57 dw_T_function_56 rfl rfl rfl ?_
        refine gx_iconst hX 0 58 dw_T_function_57 (by decide) rfl ?_
        refine gx_aload_n hX 1 59 dw_T_function_58 rfl rfl rfl ?_
        refine tg_0 hX 2 62 (by decide) tw_452 rfl dw_T_function_59 rfl ?_
        refine gx_iload_n hX 2 63 dw_T_function_62 rfl rfl rfl ?_
        exact gx_none
      · refine gx_bipush hX (-2) 38 dw_T_function_36 (by decide) rfl ?_
        exact gx_ret hX dw_T_function_38
    · refine gx_iconst hX (-1) 23 dw_T_function_22 (by decide) rfl ?_
      exact gx_ret hX dw_T_function_23
def my_T_function : MethodName := ⟨"TypeLoom", "function", "(II)I"⟩
theorem hy_T_function : (my_T_function.cls ≠ "java/lang/invoke/MethodHandle" ∧ my_T_function.cls ≠ "java/lang/invoke/VarHandle") ∧ (parseMethodDescriptor my_T_function.desc).map (fun d => d.parameters.length) = some 2 := by decide +kernel
theorem tm_T_function {D : va_G} {ob : Nat → Nat} {cA : ClassId} (l : Launch) (σ : gx_S) (L1 : Int32) (L2 : Int32) : gx_C l (tc_V D ob cA) my_T_function prog_1_method_6_code 4 (some .int) 2 47 [.ref (ob 0), .int L1, .int L2] σ (kt_T_function σ L1 L2) := gx_met (by decide) rfl (Nat.le_of_ble_eq_true rfl) rfl (fun X _ hX => tl_T_function hX σ L1 L2)
theorem tr_T_function {D : va_G} {ob : Nat → Nat} {cA : ClassId} {X : gx_X} {cc : ByteArray} {own : String} {nL fr lo : Nat} {rt : Option FieldType} {σ : gx_S} {pc : Nat} {lv : List (Nat × Value)} {st : List Value} (hX : gx_K (tc_V D ob cA) X cc own nL fr lo rt) {idx : Nat} {L1 : Int32} {L2 : Int32} {k : gx_S → Int32 → gx_R} (n : Nat) (hlink : Cond.methodLink own idx ({ cls := "TypeLoom", name := "function", desc := "(II)I" } : Jvm.MethodName) ∈ gx_T) (hroom : 2 + 1 ≤ fr ∧ 8 + (4 + 11) + 47 ≤ lo) (hst : (st.map fun v => v.category).sum ≤ 8) (hd : decode cc pc = .ok (.invokevirtual idx, 3)) (hn : pc + 3 = n) (kk : ∀ σ' r, gx_G (tc_V D ob cA) X (k σ' r) σ' n lv (.int r :: st)) : gx_G (tc_V D ob cA) X (gx_bd (kt_T_function σ L1 L2) k) σ pc lv (.int L2 :: .int L1 :: .ref (ob 0) :: st) :=
  gx_callI hX [.int L1, .int L2] n rfl (tm_T_function _ σ L1 L2) hy_T_function tw_577 hlink tw_575 tw_576 tw_70 (gf_recv 0 (show 0 < 55 by decide) rfl rfl) hroom hst hd hn rfl (fun σ' r _ => kk σ' r)
def kt_T_variable (σ : gx_S) (L1 : Int32) (L2 : Int32) : gx_R :=
  if L2 < 0 then
    some (σ, (-1))
  else
    gx_bd (kt_Constructors_mayBeSet σ L2 L1) (fun σ1 r2 =>
    if r2 = 0 then
      some (σ1, (-1))
    else
      gx_bd (kt_T_leaf σ1 0 L2 L1) (fun σ3 r4 =>
      some (σ3, r4)))
set_option maxRecDepth 100000 in
set_option maxHeartbeats 4000000 in
theorem tl_T_variable {D : va_G} {ob : Nat → Nat} {cA : ClassId} {X : gx_X} (hX : gx_K (tc_V D ob cA) X prog_1_method_7_code "TypeLoom" 3 3 70 (some .int)) (σ : gx_S) (L1 : Int32) (L2 : Int32) : gx_G (tc_V D ob cA) X (kt_T_variable σ L1 L2) σ 0 [(0, .ref (ob 0)), (1, .int L1), (2, .int L2)] [] := by
  unfold kt_T_variable
  refine gx_iload_n hX 2 1 dw_T_variable_0 rfl rfl rfl ?_
  refine gx_if_lt hX 16 4 dw_T_variable_1 (by decide) rfl (fun _ => ?_) (fun _ => ?_)
  · refine gx_iconst hX (-1) 17 dw_T_variable_16 (by decide) rfl ?_
    exact gx_ret hX dw_T_variable_17
  · refine gx_aload_n hX 0 5 dw_T_variable_4 rfl rfl rfl ?_
    refine tg_0 hX 0 8 (by decide) tw_450 rfl dw_T_variable_5 rfl ?_
    refine gx_iload_n hX 2 9 dw_T_variable_8 rfl rfl rfl ?_
    refine gx_iload_n hX 1 10 dw_T_variable_9 rfl rfl rfl ?_
    refine tr_Constructors_mayBeSet hX 13 tw_582 ⟨Nat.le_of_ble_eq_true rfl, Nat.le_of_ble_eq_true rfl⟩ (Nat.le_of_ble_eq_true rfl) dw_T_variable_10 rfl (fun σ1 r2 => ?_)
    refine gx_if_ne hX 18 16 dw_T_variable_13 (by decide) rfl (fun _ => ?_) (fun _ => ?_)
    · refine gx_aload_n hX 0 19 dw_T_variable_18 rfl rfl rfl ?_
      refine gx_iconst hX 0 20 dw_T_variable_19 (by decide) rfl ?_
      refine gx_iload_n hX 2 21 dw_T_variable_20 rfl rfl rfl ?_
      refine gx_iload_n hX 1 22 dw_T_variable_21 rfl rfl rfl ?_
      refine tr_T_leaf hX 25 tw_587 ⟨Nat.le_of_ble_eq_true rfl, Nat.le_of_ble_eq_true rfl⟩ (Nat.le_of_ble_eq_true rfl) dw_T_variable_22 rfl (fun σ3 r4 => ?_)
      exact gx_ret hX dw_T_variable_25
    · refine gx_iconst hX (-1) 17 dw_T_variable_16 (by decide) rfl ?_
      exact gx_ret hX dw_T_variable_17
def my_T_variable : MethodName := ⟨"TypeLoom", "variable", "(ZI)I"⟩
theorem hy_T_variable : (my_T_variable.cls ≠ "java/lang/invoke/MethodHandle" ∧ my_T_variable.cls ≠ "java/lang/invoke/VarHandle") ∧ (parseMethodDescriptor my_T_variable.desc).map (fun d => d.parameters.length) = some 2 := by decide +kernel
theorem tm_T_variable {D : va_G} {ob : Nat → Nat} {cA : ClassId} (l : Launch) (σ : gx_S) (L1 : Int32) (L2 : Int32) : gx_C l (tc_V D ob cA) my_T_variable prog_1_method_7_code 3 (some .int) 3 70 [.ref (ob 0), .int L1, .int L2] σ (kt_T_variable σ L1 L2) := gx_met (by decide) rfl (Nat.le_of_ble_eq_true rfl) rfl (fun X _ hX => tl_T_variable hX σ L1 L2)
theorem tr_T_variable {D : va_G} {ob : Nat → Nat} {cA : ClassId} {X : gx_X} {cc : ByteArray} {own : String} {nL fr lo : Nat} {rt : Option FieldType} {σ : gx_S} {pc : Nat} {lv : List (Nat × Value)} {st : List Value} (hX : gx_K (tc_V D ob cA) X cc own nL fr lo rt) {idx : Nat} {L1 : Int32} {L2 : Int32} {k : gx_S → Int32 → gx_R} (n : Nat) (hlink : Cond.methodLink own idx ({ cls := "TypeLoom", name := "variable", desc := "(ZI)I" } : Jvm.MethodName) ∈ gx_T) (hroom : 3 + 1 ≤ fr ∧ 8 + (3 + 11) + 70 ≤ lo) (hst : (st.map fun v => v.category).sum ≤ 8) (hd : decode cc pc = .ok (.invokevirtual idx, 3)) (hn : pc + 3 = n) (kk : ∀ σ' r, gx_G (tc_V D ob cA) X (k σ' r) σ' n lv (.int r :: st)) : gx_G (tc_V D ob cA) X (gx_bd (kt_T_variable σ L1 L2) k) σ pc lv (.int L2 :: .int L1 :: .ref (ob 0) :: st) :=
  gx_callI hX [.int L1, .int L2] n rfl (tm_T_variable _ σ L1 L2) hy_T_variable tw_581 hlink tw_579 tw_580 tw_70 (gf_recv 0 (show 0 < 55 by decide) rfl rfl) hroom hst hd hn rfl (fun σ' r _ => kk σ' r)
def kt_T_rigid (σ : gx_S) (L1 : Int32) : gx_R :=
  gx_bd (kt_T_leaf σ 1 0 L1) (fun σ1 r2 =>
  some (σ1, r2))
set_option maxRecDepth 100000 in
set_option maxHeartbeats 4000000 in
theorem tl_T_rigid {D : va_G} {ob : Nat → Nat} {cA : ClassId} {X : gx_X} (hX : gx_K (tc_V D ob cA) X prog_1_method_8_code "TypeLoom" 2 3 70 (some .int)) (σ : gx_S) (L1 : Int32) : gx_G (tc_V D ob cA) X (kt_T_rigid σ L1) σ 0 [(0, .ref (ob 0)), (1, .int L1)] [] := by
  unfold kt_T_rigid
  refine gx_aload_n hX 0 1 dw_T_rigid_0 rfl rfl rfl ?_
  refine gx_iconst hX 1 2 dw_T_rigid_1 (by decide) rfl ?_
  refine gx_iconst hX 0 3 dw_T_rigid_2 (by decide) rfl ?_
  refine gx_iload_n hX 1 4 dw_T_rigid_3 rfl rfl rfl ?_
  refine tr_T_leaf hX 7 tw_587 ⟨Nat.le_of_ble_eq_true rfl, Nat.le_of_ble_eq_true rfl⟩ (Nat.le_of_ble_eq_true rfl) dw_T_rigid_4 rfl (fun σ1 r2 => ?_)
  exact gx_ret hX dw_T_rigid_7
def my_T_rigid : MethodName := ⟨"TypeLoom", "rigid", "(Z)I"⟩
theorem hy_T_rigid : (my_T_rigid.cls ≠ "java/lang/invoke/MethodHandle" ∧ my_T_rigid.cls ≠ "java/lang/invoke/VarHandle") ∧ (parseMethodDescriptor my_T_rigid.desc).map (fun d => d.parameters.length) = some 1 := by decide +kernel
theorem tm_T_rigid {D : va_G} {ob : Nat → Nat} {cA : ClassId} (l : Launch) (σ : gx_S) (L1 : Int32) : gx_C l (tc_V D ob cA) my_T_rigid prog_1_method_8_code 2 (some .int) 3 70 [.ref (ob 0), .int L1] σ (kt_T_rigid σ L1) := gx_met (by decide) rfl (Nat.le_of_ble_eq_true rfl) rfl (fun X _ hX => tl_T_rigid hX σ L1)
theorem tr_T_rigid {D : va_G} {ob : Nat → Nat} {cA : ClassId} {X : gx_X} {cc : ByteArray} {own : String} {nL fr lo : Nat} {rt : Option FieldType} {σ : gx_S} {pc : Nat} {lv : List (Nat × Value)} {st : List Value} (hX : gx_K (tc_V D ob cA) X cc own nL fr lo rt) {idx : Nat} {L1 : Int32} {k : gx_S → Int32 → gx_R} (n : Nat) (hlink : Cond.methodLink own idx ({ cls := "TypeLoom", name := "rigid", desc := "(Z)I" } : Jvm.MethodName) ∈ gx_T) (hroom : 3 + 1 ≤ fr ∧ 8 + (2 + 11) + 70 ≤ lo) (hst : (st.map fun v => v.category).sum ≤ 8) (hd : decode cc pc = .ok (.invokevirtual idx, 3)) (hn : pc + 3 = n) (kk : ∀ σ' r, gx_G (tc_V D ob cA) X (k σ' r) σ' n lv (.int r :: st)) : gx_G (tc_V D ob cA) X (gx_bd (kt_T_rigid σ L1) k) σ pc lv (.int L1 :: .ref (ob 0) :: st) :=
  gx_callI hX [.int L1] n rfl (tm_T_rigid _ σ L1) hy_T_rigid tw_594 hlink tw_592 tw_593 tw_70 (gf_recv 0 (show 0 < 55 by decide) rfl rfl) hroom hst hd hn rfl (fun σ' r _ => kk σ' r)
def kt_T_level (σ : gx_S) (L1 : Int32) : gx_R :=
  if L1 < 0 then
    some (σ, (-1))
  else
    if L1 ≤ 100 then
      gx_bv ((σ.1 20)) (fun x1 =>
      gx_sb (gx_si σ 20 L1) (fun σ2 =>
      some (σ2, x1)))
    else
      some (σ, (-1))
set_option maxRecDepth 100000 in
set_option maxHeartbeats 4000000 in
theorem tl_T_level {D : va_G} {ob : Nat → Nat} {cA : ClassId} {X : gx_X} (hX : gx_K (tc_V D ob cA) X prog_1_method_10_code "TypeLoom" 3 0 0 (some .int)) (σ : gx_S) (L1 : Int32) : gx_G (tc_V D ob cA) X (kt_T_level σ L1) σ 0 [(0, .ref (ob 0)), (1, .int L1)] [] := by
  unfold kt_T_level
  refine gx_iload_n hX 1 1 dw_T_level_0 rfl rfl rfl ?_
  refine gx_if_lt hX 10 4 dw_T_level_1 (by decide) rfl (fun _ => ?_) (fun _ => ?_)
  · refine gx_iconst hX (-1) 11 dw_T_level_10 (by decide) rfl ?_
    exact gx_ret hX dw_T_level_11
  · refine gx_iload_n hX 1 5 dw_T_level_4 rfl rfl rfl ?_
    refine gx_bipush hX 100 7 dw_T_level_5 (by decide) rfl ?_
    refine gx_icmp_le hX 12 10 dw_T_level_7 (by decide) rfl (fun _ => ?_) (fun _ => ?_)
    · refine gx_aload_n hX 0 13 dw_T_level_12 rfl rfl rfl ?_
      refine tg_0 hX 7 16 (by decide) tw_457 rfl dw_T_level_13 rfl ?_
      refine gx_bvN (fun x1 => ?_)
      refine gx_istore_n hX [(2, .int x1), (0, .ref (ob 0)), (1, .int L1)] 17 dw_T_level_16 rfl (by decide) rfl rfl ?_
      refine gx_aload_n hX 1 18 dw_T_level_17 rfl rfl rfl ?_
      refine gx_iload_n hX 2 19 dw_T_level_18 rfl rfl rfl ?_
      refine tp_20 hX 22 tw_457 dw_T_level_19 rfl (fun σ2 => ?_)
      refine gx_iload_n hX 0 23 dw_T_level_22 rfl rfl rfl ?_
      exact gx_ret hX dw_T_level_23
    · refine gx_iconst hX (-1) 11 dw_T_level_10 (by decide) rfl ?_
      exact gx_ret hX dw_T_level_11
def my_T_level : MethodName := ⟨"TypeLoom", "level", "(I)I"⟩
theorem hy_T_level : (my_T_level.cls ≠ "java/lang/invoke/MethodHandle" ∧ my_T_level.cls ≠ "java/lang/invoke/VarHandle") ∧ (parseMethodDescriptor my_T_level.desc).map (fun d => d.parameters.length) = some 1 := by decide +kernel
theorem tm_T_level {D : va_G} {ob : Nat → Nat} {cA : ClassId} (l : Launch) (σ : gx_S) (L1 : Int32) : gx_C l (tc_V D ob cA) my_T_level prog_1_method_10_code 3 (some .int) 0 0 [.ref (ob 0), .int L1] σ (kt_T_level σ L1) := gx_met (by decide) rfl (Nat.le_of_ble_eq_true rfl) rfl (fun X _ hX => tl_T_level hX σ L1)
theorem tr_T_level {D : va_G} {ob : Nat → Nat} {cA : ClassId} {X : gx_X} {cc : ByteArray} {own : String} {nL fr lo : Nat} {rt : Option FieldType} {σ : gx_S} {pc : Nat} {lv : List (Nat × Value)} {st : List Value} (hX : gx_K (tc_V D ob cA) X cc own nL fr lo rt) {idx : Nat} {L1 : Int32} {k : gx_S → Int32 → gx_R} (n : Nat) (hlink : Cond.methodLink own idx ({ cls := "TypeLoom", name := "level", desc := "(I)I" } : Jvm.MethodName) ∈ gx_T) (hroom : 0 + 1 ≤ fr ∧ 8 + (3 + 11) + 0 ≤ lo) (hst : (st.map fun v => v.category).sum ≤ 8) (hd : decode cc pc = .ok (.invokevirtual idx, 3)) (hn : pc + 3 = n) (kk : ∀ σ' r, gx_G (tc_V D ob cA) X (k σ' r) σ' n lv (.int r :: st)) : gx_G (tc_V D ob cA) X (gx_bd (kt_T_level σ L1) k) σ pc lv (.int L1 :: .ref (ob 0) :: st) :=
  gx_callI hX [.int L1] n rfl (tm_T_level _ σ L1) hy_T_level tw_598 hlink tw_596 tw_597 tw_70 (gf_recv 0 (show 0 < 55 by decide) rfl rfl) hroom hst hd hn rfl (fun σ' r _ => kk σ' r)
def kt_T_unify (σ : gx_S) (L1 : Int32) (L2 : Int32) : gx_R :=
  gx_bd (kt_Web_isType σ L1) (fun σ1 r2 =>
  if r2 = 0 then
    gx_rz σ1 0
  else
    gx_bd (kt_Web_isType σ1 L2) (fun σ3 r4 =>
    if r4 = 0 then
      gx_rz σ3 0
    else
      none))
set_option maxRecDepth 100000 in
set_option maxHeartbeats 4000000 in
theorem tl_T_unify {D : va_G} {ob : Nat → Nat} {cA : ClassId} {X : gx_X} (hX : gx_K (tc_V D ob cA) X prog_1_method_11_code "TypeLoom" 3 1 21 (some .boolean)) (σ : gx_S) (L1 : Int32) (L2 : Int32) : gx_G (tc_V D ob cA) X (kt_T_unify σ L1 L2) σ 0 [(0, .ref (ob 0)), (1, .int L1), (2, .int L2)] [] := by
  unfold kt_T_unify
  refine gx_aload_n hX 0 1 dw_T_unify_0 rfl rfl rfl ?_
  refine tg_0 hX 2 4 (by decide) tw_452 rfl dw_T_unify_1 rfl ?_
  refine gx_iload_n hX 1 5 dw_T_unify_4 rfl rfl rfl ?_
  refine tr_Web_isType hX 8 tw_511 ⟨Nat.le_of_ble_eq_true rfl, Nat.le_of_ble_eq_true rfl⟩ (Nat.le_of_ble_eq_true rfl) dw_T_unify_5 rfl (fun σ1 r2 => ?_)
  refine gx_if_eq hX 52 11 dw_T_unify_8 (by decide) rfl (fun _ => ?_) (fun _ => ?_)
  · refine gx_iconst hX 0 53 dw_T_unify_52 (by decide) rfl ?_
    exact gx_retz hX dw_T_unify_53
  · refine gx_aload_n hX 0 12 dw_T_unify_11 rfl rfl rfl ?_
    refine tg_0 hX 2 15 (by decide) tw_452 rfl dw_T_unify_12 rfl ?_
    refine gx_iload_n hX 2 16 dw_T_unify_15 rfl rfl rfl ?_
    refine tr_Web_isType hX 19 tw_511 ⟨Nat.le_of_ble_eq_true rfl, Nat.le_of_ble_eq_true rfl⟩ (Nat.le_of_ble_eq_true rfl) dw_T_unify_16 rfl (fun σ3 r4 => ?_)
    refine gx_if_eq hX 52 22 dw_T_unify_19 (by decide) rfl (fun _ => ?_) (fun _ => ?_)
    · refine gx_iconst hX 0 53 dw_T_unify_52 (by decide) rfl ?_
      exact gx_retz hX dw_T_unify_53
    · refine gx_aload_n hX 0 23 dw_T_unify_22 rfl rfl rfl ?_
      refine tg_0 hX 5 26 (by decide) tw_455 rfl dw_T_unify_23 rfl ?_
      refine gx_aload_n hX 0 27 dw_T_unify_26 rfl rfl rfl ?_
      refine tg_0 hX 2 30 (by decide) tw_452 rfl dw_T_unify_27 rfl ?_
      refine gx_iload_n hX 1 31 dw_T_unify_30 rfl rfl rfl ?_
      exact gx_none
def my_T_unify : MethodName := ⟨"TypeLoom", "unify", "(II)Z"⟩
theorem hy_T_unify : (my_T_unify.cls ≠ "java/lang/invoke/MethodHandle" ∧ my_T_unify.cls ≠ "java/lang/invoke/VarHandle") ∧ (parseMethodDescriptor my_T_unify.desc).map (fun d => d.parameters.length) = some 2 := by decide +kernel
theorem tm_T_unify {D : va_G} {ob : Nat → Nat} {cA : ClassId} (l : Launch) (σ : gx_S) (L1 : Int32) (L2 : Int32) : gx_C l (tc_V D ob cA) my_T_unify prog_1_method_11_code 3 (some .boolean) 1 21 [.ref (ob 0), .int L1, .int L2] σ (kt_T_unify σ L1 L2) := gx_met (by decide) rfl (Nat.le_of_ble_eq_true rfl) rfl (fun X _ hX => tl_T_unify hX σ L1 L2)
theorem tr_T_unify {D : va_G} {ob : Nat → Nat} {cA : ClassId} {X : gx_X} {cc : ByteArray} {own : String} {nL fr lo : Nat} {rt : Option FieldType} {σ : gx_S} {pc : Nat} {lv : List (Nat × Value)} {st : List Value} (hX : gx_K (tc_V D ob cA) X cc own nL fr lo rt) {idx : Nat} {L1 : Int32} {L2 : Int32} {k : gx_S → Int32 → gx_R} (n : Nat) (hlink : Cond.methodLink own idx ({ cls := "TypeLoom", name := "unify", desc := "(II)Z" } : Jvm.MethodName) ∈ gx_T) (hroom : 1 + 1 ≤ fr ∧ 8 + (3 + 11) + 21 ≤ lo) (hst : (st.map fun v => v.category).sum ≤ 8) (hd : decode cc pc = .ok (.invokevirtual idx, 3)) (hn : pc + 3 = n) (kk : ∀ σ' r, gx_G (tc_V D ob cA) X (k σ' r) σ' n lv (.int r :: st)) : gx_G (tc_V D ob cA) X (gx_bd (kt_T_unify σ L1 L2) k) σ pc lv (.int L2 :: .int L1 :: .ref (ob 0) :: st) :=
  gx_callI hX [.int L1, .int L2] n rfl (tm_T_unify _ σ L1 L2) hy_T_unify tw_602 hlink tw_600 tw_601 tw_70 (gf_recv 0 (show 0 < 55 by decide) rfl rfl) hroom hst hd hn rfl (fun σ' r _ => kk σ' r)
def kt_T_same (σ : gx_S) (L1 : Int32) (L2 : Int64) (L4 : Int32) (L5 : Int64) : gx_R :=
  gx_bd (kt_Web_follow σ L1 L2) (fun σ1 r2 =>
  gx_bd (kt_Web_follow σ1 L4 L5) (fun σ3 r4 =>
  if r2 = (-1) then
    gx_rz σ3 0
  else
    if r4 = (-1) then
      gx_rz σ3 0
    else
      gx_bv (tc_at σ3 4 r2) (fun r5 =>
      gx_bv (tc_at σ3 4 r4) (fun r6 =>
      if r5 = r6 then
        none
      else
        gx_rz σ3 0))))
set_option maxRecDepth 100000 in
set_option maxHeartbeats 4000000 in
theorem tl_T_same {D : va_G} {ob : Nat → Nat} {cA : ClassId} {X : gx_X} (hX : gx_K (tc_V D ob cA) X prog_1_method_12_code "TypeLoom" 9 2 48 (some .boolean)) (σ : gx_S) (L1 : Int32) (L2 : Int64) (L4 : Int32) (L5 : Int64) : gx_G (tc_V D ob cA) X (kt_T_same σ L1 L2 L4 L5) σ 0 [(0, .ref (ob 0)), (1, .int L1), (2, .long L2), (4, .int L4), (5, .long L5)] [] := by
  unfold kt_T_same
  refine gx_aload_n hX 0 1 dw_T_same_0 rfl rfl rfl ?_
  refine tg_0 hX 2 4 (by decide) tw_452 rfl dw_T_same_1 rfl ?_
  refine gx_iload_n hX 1 5 dw_T_same_4 rfl rfl rfl ?_
  refine gx_lload_n hX 2 6 dw_T_same_5 rfl rfl rfl ?_
  refine tr_Web_follow hX 9 tw_738 ⟨Nat.le_of_ble_eq_true rfl, Nat.le_of_ble_eq_true rfl⟩ (Nat.le_of_ble_eq_true rfl) dw_T_same_6 rfl (fun σ1 r2 => ?_)
  refine gx_istore hX [(7, .int r2), (0, .ref (ob 0)), (1, .int L1), (2, .long L2), (4, .int L4), (5, .long L5)] 11 dw_T_same_9 (by decide) rfl rfl ?_
  refine gx_aload_n hX 1 12 dw_T_same_11 rfl rfl rfl ?_
  refine tg_0 hX 2 15 (by decide) tw_452 rfl dw_T_same_12 rfl ?_
  refine gx_iload hX 4 17 dw_T_same_15 rfl rfl ?_
  refine gx_lload hX 5 19 dw_T_same_17 rfl rfl ?_
  refine tr_Web_follow hX 22 tw_738 ⟨Nat.le_of_ble_eq_true rfl, Nat.le_of_ble_eq_true rfl⟩ (Nat.le_of_ble_eq_true rfl) dw_T_same_19 rfl (fun σ3 r4 => ?_)
  refine gx_istore hX [(8, .int r4), (7, .int r2), (0, .ref (ob 0)), (1, .int L1), (2, .long L2), (4, .int L4), (5, .long L5)] 24 dw_T_same_22 (by decide) rfl rfl ?_
  refine gx_iload hX 1 26 dw_T_same_24 rfl rfl ?_
  refine gx_iconst hX (-1) 27 dw_T_same_26 (by decide) rfl ?_
  refine gx_icmp_eq hX 63 30 dw_T_same_27 (by decide) rfl (fun _ => ?_) (fun _ => ?_)
  · refine gx_iconst hX 0 64 dw_T_same_63 (by decide) rfl ?_
    exact gx_retz hX dw_T_same_64
  · refine gx_iload hX 0 32 dw_T_same_30 rfl rfl ?_
    refine gx_iconst hX (-1) 33 dw_T_same_32 (by decide) rfl ?_
    refine gx_icmp_eq hX 63 36 dw_T_same_33 (by decide) rfl (fun _ => ?_) (fun _ => ?_)
    · refine gx_iconst hX 0 64 dw_T_same_63 (by decide) rfl ?_
      exact gx_retz hX dw_T_same_64
    · refine gx_aload_n hX 2 37 dw_T_same_36 rfl rfl rfl ?_
      refine tg_0 hX 2 40 (by decide) tw_452 rfl dw_T_same_37 rfl ?_
      refine tg_3 hX 0 43 (by decide) tw_161 rfl dw_T_same_40 rfl ?_
      refine gx_iload hX 1 45 dw_T_same_43 rfl rfl ?_
      refine tr_at hX 4 48 (by decide) tw_556 ⟨Nat.le_of_ble_eq_true rfl, Nat.le_of_ble_eq_true rfl⟩ (Nat.le_of_ble_eq_true rfl) dw_T_same_45 rfl (fun r5 => ?_)
      refine gx_aload_n hX 2 49 dw_T_same_48 rfl rfl rfl ?_
      refine tg_0 hX 2 52 (by decide) tw_452 rfl dw_T_same_49 rfl ?_
      refine tg_3 hX 0 55 (by decide) tw_161 rfl dw_T_same_52 rfl ?_
      refine gx_iload hX 0 57 dw_T_same_55 rfl rfl ?_
      refine tr_at hX 4 60 (by decide) tw_556 ⟨Nat.le_of_ble_eq_true rfl, Nat.le_of_ble_eq_true rfl⟩ (Nat.le_of_ble_eq_true rfl) dw_T_same_57 rfl (fun r6 => ?_)
      refine gx_icmp_eq hX 65 63 dw_T_same_60 (by decide) rfl (fun _ => ?_) (fun _ => ?_)
      · refine gx_aload_n hX 2 66 dw_T_same_65 rfl rfl rfl ?_
        refine tg_0 hX 4 69 (by decide) tw_454 rfl dw_T_same_66 rfl ?_
        refine gx_iload hX 1 71 dw_T_same_69 rfl rfl ?_
        refine gx_iload hX 0 73 dw_T_same_71 rfl rfl ?_
        exact gx_none
      · refine gx_iconst hX 0 64 dw_T_same_63 (by decide) rfl ?_
        exact gx_retz hX dw_T_same_64
def my_T_same : MethodName := ⟨"TypeLoom", "same", "(IJIJ)Z"⟩
theorem hy_T_same : (my_T_same.cls ≠ "java/lang/invoke/MethodHandle" ∧ my_T_same.cls ≠ "java/lang/invoke/VarHandle") ∧ (parseMethodDescriptor my_T_same.desc).map (fun d => d.parameters.length) = some 4 := by decide +kernel
theorem tm_T_same {D : va_G} {ob : Nat → Nat} {cA : ClassId} (l : Launch) (σ : gx_S) (L1 : Int32) (L2 : Int64) (L4 : Int32) (L5 : Int64) : gx_C l (tc_V D ob cA) my_T_same prog_1_method_12_code 9 (some .boolean) 2 48 [.ref (ob 0), .int L1, .long L2, .int L4, .long L5] σ (kt_T_same σ L1 L2 L4 L5) := gx_met (by decide) rfl (Nat.le_of_ble_eq_true rfl) rfl (fun X _ hX => tl_T_same hX σ L1 L2 L4 L5)
theorem tr_T_same {D : va_G} {ob : Nat → Nat} {cA : ClassId} {X : gx_X} {cc : ByteArray} {own : String} {nL fr lo : Nat} {rt : Option FieldType} {σ : gx_S} {pc : Nat} {lv : List (Nat × Value)} {st : List Value} (hX : gx_K (tc_V D ob cA) X cc own nL fr lo rt) {idx : Nat} {L1 : Int32} {L2 : Int64} {L4 : Int32} {L5 : Int64} {k : gx_S → Int32 → gx_R} (n : Nat) (hlink : Cond.methodLink own idx ({ cls := "TypeLoom", name := "same", desc := "(IJIJ)Z" } : Jvm.MethodName) ∈ gx_T) (hroom : 2 + 1 ≤ fr ∧ 8 + (9 + 11) + 48 ≤ lo) (hst : (st.map fun v => v.category).sum ≤ 8) (hd : decode cc pc = .ok (.invokevirtual idx, 3)) (hn : pc + 3 = n) (kk : ∀ σ' r, gx_G (tc_V D ob cA) X (k σ' r) σ' n lv (.int r :: st)) : gx_G (tc_V D ob cA) X (gx_bd (kt_T_same σ L1 L2 L4 L5) k) σ pc lv (.long L5 :: .int L4 :: .long L2 :: .int L1 :: .ref (ob 0) :: st) :=
  gx_callI hX [.int L1, .long L2, .int L4, .long L5] n rfl (tm_T_same _ σ L1 L2 L4 L5) hy_T_same tw_737 hlink tw_735 tw_736 tw_70 (gf_recv 0 (show 0 < 55 by decide) rfl rfl) hroom hst hd hn rfl (fun σ' r _ => kk σ' r)
def kt_T_look (σ : gx_S) (L1 : Int32) (L2 : Int64) (L4 : Int32) : gx_R :=
  gx_bd (kt_Web_follow σ L1 L2) (fun σ1 r2 =>
  if r2 = (-1) then
    some (σ1, (-1))
  else
    gx_bv (tc_at σ1 4 r2) (fun r3 =>
    if L4 = 0 then
      some (σ1, r3)
    else if L4 = 1 then
      if r3 = 2 then
        gx_bv (tc_at σ1 5 r2) (fun r4 =>
        some (σ1, r4))
      else
        some (σ1, (-1))
    else if L4 = 2 then
      none
    else if L4 = 3 then
      none
    else if L4 = 4 then
      none
    else if L4 = 5 then
      if r3 = 0 then
        gx_bv (tc_at σ1 5 r2) (fun r5 =>
        some (σ1, r5))
      else
        some (σ1, (-1))
    else if L4 = 6 then
      if r3 = 4 then
        none
      else
        some (σ1, (-1))
    else some (σ1, (-1))))
set_option maxRecDepth 100000 in
set_option maxHeartbeats 4000000 in
theorem tl_T_look {D : va_G} {ob : Nat → Nat} {cA : ClassId} {X : gx_X} (hX : gx_K (tc_V D ob cA) X prog_1_method_13_code "TypeLoom" 7 2 48 (some .int)) (σ : gx_S) (L1 : Int32) (L2 : Int64) (L4 : Int32) : gx_G (tc_V D ob cA) X (kt_T_look σ L1 L2 L4) σ 0 [(0, .ref (ob 0)), (1, .int L1), (2, .long L2), (4, .int L4)] [] := by
  unfold kt_T_look
  refine gx_aload_n hX 0 1 dw_T_look_0 rfl rfl rfl ?_
  refine tg_0 hX 2 4 (by decide) tw_452 rfl dw_T_look_1 rfl ?_
  refine gx_iload_n hX 1 5 dw_T_look_4 rfl rfl rfl ?_
  refine gx_lload_n hX 2 6 dw_T_look_5 rfl rfl rfl ?_
  refine tr_Web_follow hX 9 tw_738 ⟨Nat.le_of_ble_eq_true rfl, Nat.le_of_ble_eq_true rfl⟩ (Nat.le_of_ble_eq_true rfl) dw_T_look_6 rfl (fun σ1 r2 => ?_)
  refine gx_istore hX [(5, .int r2), (0, .ref (ob 0)), (1, .int L1), (2, .long L2), (4, .int L4)] 11 dw_T_look_9 (by decide) rfl rfl ?_
  refine gx_iload hX 0 13 dw_T_look_11 rfl rfl ?_
  refine gx_iconst hX (-1) 14 dw_T_look_13 (by decide) rfl ?_
  refine gx_icmp_ne hX 19 17 dw_T_look_14 (by decide) rfl (fun _ => ?_) (fun _ => ?_)
  · refine gx_aload_n hX 1 20 dw_T_look_19 rfl rfl rfl ?_
    refine tg_0 hX 2 23 (by decide) tw_452 rfl dw_T_look_20 rfl ?_
    refine tg_3 hX 0 26 (by decide) tw_161 rfl dw_T_look_23 rfl ?_
    refine gx_iload hX 0 28 dw_T_look_26 rfl rfl ?_
    refine tr_at hX 4 31 (by decide) tw_556 ⟨Nat.le_of_ble_eq_true rfl, Nat.le_of_ble_eq_true rfl⟩ (Nat.le_of_ble_eq_true rfl) dw_T_look_28 rfl (fun r3 => ?_)
    refine gx_istore hX [(6, .int r3), (5, .int r2), (0, .ref (ob 0)), (1, .int L1), (2, .long L2), (4, .int L4)] 33 dw_T_look_31 (by decide) rfl rfl ?_
    refine gx_iload hX 5 35 dw_T_look_33 rfl rfl ?_
    refine gx_tsw7 hX 76 79 102 112 130 137 159 188 dw_T_look_35 (by decide) (by decide) (by decide) (by decide) (by decide) (by decide) (by decide) (by decide) ?_ ?_ ?_ ?_ ?_ ?_ ?_ ?_
    · refine gx_iload hX 0 78 dw_T_look_76 rfl rfl ?_
      exact gx_ret hX dw_T_look_78
    · refine gx_iload hX 0 81 dw_T_look_79 rfl rfl ?_
      refine gx_iconst hX 2 82 dw_T_look_81 (by decide) rfl ?_
      refine gx_icmp_ne hX 100 85 dw_T_look_82 (by decide) rfl (fun _ => ?_) (fun _ => ?_)
      · refine gx_iconst hX (-1) 101 dw_T_look_100 (by decide) rfl ?_
        exact gx_ret hX dw_T_look_101
      · refine gx_aload_n hX 2 86 dw_T_look_85 rfl rfl rfl ?_
        refine tg_0 hX 2 89 (by decide) tw_452 rfl dw_T_look_86 rfl ?_
        refine tg_3 hX 1 92 (by decide) tw_167 rfl dw_T_look_89 rfl ?_
        refine gx_iload hX 1 94 dw_T_look_92 rfl rfl ?_
        refine tr_at hX 5 97 (by decide) tw_556 ⟨Nat.le_of_ble_eq_true rfl, Nat.le_of_ble_eq_true rfl⟩ (Nat.le_of_ble_eq_true rfl) dw_T_look_94 rfl (fun r4 => ?_)
        refine gx_goto hX 101 dw_T_look_97 (by decide) ?_
        exact gx_ret hX dw_T_look_101
    · refine gx_aload_n hX 2 103 dw_T_look_102 rfl rfl rfl ?_
      refine tg_0 hX 2 106 (by decide) tw_452 rfl dw_T_look_103 rfl ?_
      refine gx_iload hX 1 108 dw_T_look_106 rfl rfl ?_
      exact gx_none
    · refine gx_aload_n hX 2 113 dw_T_look_112 rfl rfl rfl ?_
      refine tg_0 hX 3 116 (by decide) tw_453 rfl dw_T_look_113 rfl ?_
      refine gx_iload hX 1 118 dw_T_look_116 rfl rfl ?_
      exact gx_none
    · refine gx_aload_n hX 2 131 dw_T_look_130 rfl rfl rfl ?_
      refine gx_iload hX 1 133 dw_T_look_131 rfl rfl ?_
      exact gx_none
    · refine gx_iload hX 0 139 dw_T_look_137 rfl rfl ?_
      refine gx_if_ne hX 157 142 dw_T_look_139 (by decide) rfl (fun _ => ?_) (fun _ => ?_)
      · refine gx_iconst hX (-1) 158 dw_T_look_157 (by decide) rfl ?_
        exact gx_ret hX dw_T_look_158
      · refine gx_aload_n hX 2 143 dw_T_look_142 rfl rfl rfl ?_
        refine tg_0 hX 2 146 (by decide) tw_452 rfl dw_T_look_143 rfl ?_
        refine tg_3 hX 1 149 (by decide) tw_167 rfl dw_T_look_146 rfl ?_
        refine gx_iload hX 1 151 dw_T_look_149 rfl rfl ?_
        refine tr_at hX 5 154 (by decide) tw_556 ⟨Nat.le_of_ble_eq_true rfl, Nat.le_of_ble_eq_true rfl⟩ (Nat.le_of_ble_eq_true rfl) dw_T_look_151 rfl (fun r5 => ?_)
        refine gx_goto hX 158 dw_T_look_154 (by decide) ?_
        exact gx_ret hX dw_T_look_158
    · refine gx_iload hX 0 161 dw_T_look_159 rfl rfl ?_
      refine gx_iconst hX 4 162 dw_T_look_161 (by decide) rfl ?_
      refine gx_icmp_eq hX 169 165 dw_T_look_162 (by decide) rfl (fun _ => ?_) (fun _ => ?_)
      · refine gx_aload_n hX 2 170 dw_T_look_169 rfl rfl rfl ?_
        refine tg_0 hX 2 173 (by decide) tw_452 rfl dw_T_look_170 rfl ?_
        refine gx_iload hX 1 175 dw_T_look_173 rfl rfl ?_
        exact gx_none
      · refine gx_iconst hX (-1) 166 dw_T_look_165 (by decide) rfl ?_
        refine gx_goto hX 187 dw_T_look_166 (by decide) ?_
        exact gx_ret hX dw_T_look_187
    · refine gx_iconst hX (-1) 189 dw_T_look_188 (by decide) rfl ?_
      exact gx_ret hX dw_T_look_189
  · refine gx_iconst hX (-1) 18 dw_T_look_17 (by decide) rfl ?_
    exact gx_ret hX dw_T_look_18
def my_T_look : MethodName := ⟨"TypeLoom", "look", "(IJI)I"⟩
theorem hy_T_look : (my_T_look.cls ≠ "java/lang/invoke/MethodHandle" ∧ my_T_look.cls ≠ "java/lang/invoke/VarHandle") ∧ (parseMethodDescriptor my_T_look.desc).map (fun d => d.parameters.length) = some 3 := by decide +kernel
theorem tm_T_look {D : va_G} {ob : Nat → Nat} {cA : ClassId} (l : Launch) (σ : gx_S) (L1 : Int32) (L2 : Int64) (L4 : Int32) : gx_C l (tc_V D ob cA) my_T_look prog_1_method_13_code 7 (some .int) 2 48 [.ref (ob 0), .int L1, .long L2, .int L4] σ (kt_T_look σ L1 L2 L4) := gx_met (by decide) rfl (Nat.le_of_ble_eq_true rfl) rfl (fun X _ hX => tl_T_look hX σ L1 L2 L4)
theorem tr_T_look {D : va_G} {ob : Nat → Nat} {cA : ClassId} {X : gx_X} {cc : ByteArray} {own : String} {nL fr lo : Nat} {rt : Option FieldType} {σ : gx_S} {pc : Nat} {lv : List (Nat × Value)} {st : List Value} (hX : gx_K (tc_V D ob cA) X cc own nL fr lo rt) {idx : Nat} {L1 : Int32} {L2 : Int64} {L4 : Int32} {k : gx_S → Int32 → gx_R} (n : Nat) (hlink : Cond.methodLink own idx ({ cls := "TypeLoom", name := "look", desc := "(IJI)I" } : Jvm.MethodName) ∈ gx_T) (hroom : 2 + 1 ≤ fr ∧ 8 + (7 + 11) + 48 ≤ lo) (hst : (st.map fun v => v.category).sum ≤ 8) (hd : decode cc pc = .ok (.invokevirtual idx, 3)) (hn : pc + 3 = n) (kk : ∀ σ' r, gx_G (tc_V D ob cA) X (k σ' r) σ' n lv (.int r :: st)) : gx_G (tc_V D ob cA) X (gx_bd (kt_T_look σ L1 L2 L4) k) σ pc lv (.int L4 :: .long L2 :: .int L1 :: .ref (ob 0) :: st) :=
  gx_callI hX [.int L1, .long L2, .int L4] n rfl (tm_T_look _ σ L1 L2 L4) hy_T_look tw_787 hlink tw_785 tw_786 tw_70 (gf_recv 0 (show 0 < 55 by decide) rfl rfl) hroom hst hd hn rfl (fun σ' r _ => kk σ' r)
def kt_T_label (σ : gx_S) (L1 : Int32) (L2 : Int64) (L4 : Int32) : gx_R :=
  gx_bd (kt_Web_follow σ L1 L2) (fun σ1 r2 =>
  if r2 = (-1) then
    some (σ1, (-1))
  else
    gx_bv (tc_at σ1 4 r2) (fun r3 =>
    if r3 = 4 then
      none
    else
      some (σ1, (-1))))
set_option maxRecDepth 100000 in
set_option maxHeartbeats 4000000 in
theorem tl_T_label {D : va_G} {ob : Nat → Nat} {cA : ClassId} {X : gx_X} (hX : gx_K (tc_V D ob cA) X prog_1_method_15_code "TypeLoom" 7 2 48 (some .int)) (σ : gx_S) (L1 : Int32) (L2 : Int64) (L4 : Int32) : gx_G (tc_V D ob cA) X (kt_T_label σ L1 L2 L4) σ 0 [(0, .ref (ob 0)), (1, .int L1), (2, .long L2), (4, .int L4)] [] := by
  unfold kt_T_label
  refine gx_aload_n hX 0 1 dw_T_label_0 rfl rfl rfl ?_
  refine tg_0 hX 2 4 (by decide) tw_452 rfl dw_T_label_1 rfl ?_
  refine gx_iload_n hX 1 5 dw_T_label_4 rfl rfl rfl ?_
  refine gx_lload_n hX 2 6 dw_T_label_5 rfl rfl rfl ?_
  refine tr_Web_follow hX 9 tw_738 ⟨Nat.le_of_ble_eq_true rfl, Nat.le_of_ble_eq_true rfl⟩ (Nat.le_of_ble_eq_true rfl) dw_T_label_6 rfl (fun σ1 r2 => ?_)
  refine gx_istore hX [(5, .int r2), (0, .ref (ob 0)), (1, .int L1), (2, .long L2), (4, .int L4)] 11 dw_T_label_9 (by decide) rfl rfl ?_
  refine gx_iload hX 0 13 dw_T_label_11 rfl rfl ?_
  refine gx_iconst hX (-1) 14 dw_T_label_13 (by decide) rfl ?_
  refine gx_icmp_eq hX 33 17 dw_T_label_14 (by decide) rfl (fun _ => ?_) (fun _ => ?_)
  · refine gx_iconst hX (-1) 34 dw_T_label_33 (by decide) rfl ?_
    exact gx_ret hX dw_T_label_34
  · refine gx_aload_n hX 1 18 dw_T_label_17 rfl rfl rfl ?_
    refine tg_0 hX 2 21 (by decide) tw_452 rfl dw_T_label_18 rfl ?_
    refine tg_3 hX 0 24 (by decide) tw_161 rfl dw_T_label_21 rfl ?_
    refine gx_iload hX 0 26 dw_T_label_24 rfl rfl ?_
    refine tr_at hX 4 29 (by decide) tw_556 ⟨Nat.le_of_ble_eq_true rfl, Nat.le_of_ble_eq_true rfl⟩ (Nat.le_of_ble_eq_true rfl) dw_T_label_26 rfl (fun r3 => ?_)
    refine gx_iconst hX 4 30 dw_T_label_29 (by decide) rfl ?_
    refine gx_icmp_eq hX 35 33 dw_T_label_30 (by decide) rfl (fun _ => ?_) (fun _ => ?_)
    · refine gx_aload_n hX 1 36 dw_T_label_35 rfl rfl rfl ?_
      refine tg_0 hX 2 39 (by decide) tw_452 rfl dw_T_label_36 rfl ?_
      refine gx_iload hX 0 41 dw_T_label_39 rfl rfl ?_
      refine gx_iload hX 4 43 dw_T_label_41 rfl rfl ?_
      exact gx_none
    · refine gx_iconst hX (-1) 34 dw_T_label_33 (by decide) rfl ?_
      exact gx_ret hX dw_T_label_34
def my_T_label : MethodName := ⟨"TypeLoom", "label", "(IJI)I"⟩
theorem hy_T_label : (my_T_label.cls ≠ "java/lang/invoke/MethodHandle" ∧ my_T_label.cls ≠ "java/lang/invoke/VarHandle") ∧ (parseMethodDescriptor my_T_label.desc).map (fun d => d.parameters.length) = some 3 := by decide +kernel
theorem tm_T_label {D : va_G} {ob : Nat → Nat} {cA : ClassId} (l : Launch) (σ : gx_S) (L1 : Int32) (L2 : Int64) (L4 : Int32) : gx_C l (tc_V D ob cA) my_T_label prog_1_method_15_code 7 (some .int) 2 48 [.ref (ob 0), .int L1, .long L2, .int L4] σ (kt_T_label σ L1 L2 L4) := gx_met (by decide) rfl (Nat.le_of_ble_eq_true rfl) rfl (fun X _ hX => tl_T_label hX σ L1 L2 L4)
theorem tr_T_label {D : va_G} {ob : Nat → Nat} {cA : ClassId} {X : gx_X} {cc : ByteArray} {own : String} {nL fr lo : Nat} {rt : Option FieldType} {σ : gx_S} {pc : Nat} {lv : List (Nat × Value)} {st : List Value} (hX : gx_K (tc_V D ob cA) X cc own nL fr lo rt) {idx : Nat} {L1 : Int32} {L2 : Int64} {L4 : Int32} {k : gx_S → Int32 → gx_R} (n : Nat) (hlink : Cond.methodLink own idx ({ cls := "TypeLoom", name := "label", desc := "(IJI)I" } : Jvm.MethodName) ∈ gx_T) (hroom : 2 + 1 ≤ fr ∧ 8 + (7 + 11) + 48 ≤ lo) (hst : (st.map fun v => v.category).sum ≤ 8) (hd : decode cc pc = .ok (.invokevirtual idx, 3)) (hn : pc + 3 = n) (kk : ∀ σ' r, gx_G (tc_V D ob cA) X (k σ' r) σ' n lv (.int r :: st)) : gx_G (tc_V D ob cA) X (gx_bd (kt_T_label σ L1 L2 L4) k) σ pc lv (.int L4 :: .long L2 :: .int L1 :: .ref (ob 0) :: st) :=
  gx_callI hX [.int L1, .long L2, .int L4] n rfl (tm_T_label _ σ L1 L2 L4) hy_T_label tw_808 hlink tw_806 tw_807 tw_70 (gf_recv 0 (show 0 < 55 by decide) rfl rfl) hroom hst hd hn rfl (fun σ' r _ => kk σ' r)
def kt_T_scheme (σ : gx_S) (L1 : Int32) : gx_R :=
  gx_bd (kt_Web_isType σ L1) (fun σ1 r2 =>
  if r2 = 0 then
    some (σ1, (-1))
  else
    none)
set_option maxRecDepth 100000 in
set_option maxHeartbeats 4000000 in
theorem tl_T_scheme {D : va_G} {ob : Nat → Nat} {cA : ClassId} {X : gx_X} (hX : gx_K (tc_V D ob cA) X prog_1_method_16_code "TypeLoom" 3 1 21 (some .int)) (σ : gx_S) (L1 : Int32) : gx_G (tc_V D ob cA) X (kt_T_scheme σ L1) σ 0 [(0, .ref (ob 0)), (1, .int L1)] [] := by
  unfold kt_T_scheme
  refine gx_aload_n hX 0 1 dw_T_scheme_0 rfl rfl rfl ?_
  refine tg_0 hX 2 4 (by decide) tw_452 rfl dw_T_scheme_1 rfl ?_
  refine gx_iload_n hX 1 5 dw_T_scheme_4 rfl rfl rfl ?_
  refine tr_Web_isType hX 8 tw_511 ⟨Nat.le_of_ble_eq_true rfl, Nat.le_of_ble_eq_true rfl⟩ (Nat.le_of_ble_eq_true rfl) dw_T_scheme_5 rfl (fun σ1 r2 => ?_)
  refine gx_if_ne hX 13 11 dw_T_scheme_8 (by decide) rfl (fun _ => ?_) (fun _ => ?_)
  · refine gx_aload_n hX 0 14 dw_T_scheme_13 rfl rfl rfl ?_
    refine tg_0 hX 2 17 (by decide) tw_452 rfl dw_T_scheme_14 rfl ?_
    refine gx_aload_n hX 0 18 dw_T_scheme_17 rfl rfl rfl ?_
    refine tg_0 hX 2 21 (by decide) tw_452 rfl dw_T_scheme_18 rfl ?_
    refine gx_iload_n hX 1 22 dw_T_scheme_21 rfl rfl rfl ?_
    exact gx_none
  · refine gx_iconst hX (-1) 12 dw_T_scheme_11 (by decide) rfl ?_
    exact gx_ret hX dw_T_scheme_12
def my_T_scheme : MethodName := ⟨"TypeLoom", "scheme", "(I)I"⟩
theorem hy_T_scheme : (my_T_scheme.cls ≠ "java/lang/invoke/MethodHandle" ∧ my_T_scheme.cls ≠ "java/lang/invoke/VarHandle") ∧ (parseMethodDescriptor my_T_scheme.desc).map (fun d => d.parameters.length) = some 1 := by decide +kernel
theorem tm_T_scheme {D : va_G} {ob : Nat → Nat} {cA : ClassId} (l : Launch) (σ : gx_S) (L1 : Int32) : gx_C l (tc_V D ob cA) my_T_scheme prog_1_method_16_code 3 (some .int) 1 21 [.ref (ob 0), .int L1] σ (kt_T_scheme σ L1) := gx_met (by decide) rfl (Nat.le_of_ble_eq_true rfl) rfl (fun X _ hX => tl_T_scheme hX σ L1)
theorem tr_T_scheme {D : va_G} {ob : Nat → Nat} {cA : ClassId} {X : gx_X} {cc : ByteArray} {own : String} {nL fr lo : Nat} {rt : Option FieldType} {σ : gx_S} {pc : Nat} {lv : List (Nat × Value)} {st : List Value} (hX : gx_K (tc_V D ob cA) X cc own nL fr lo rt) {idx : Nat} {L1 : Int32} {k : gx_S → Int32 → gx_R} (n : Nat) (hlink : Cond.methodLink own idx ({ cls := "TypeLoom", name := "scheme", desc := "(I)I" } : Jvm.MethodName) ∈ gx_T) (hroom : 1 + 1 ≤ fr ∧ 8 + (3 + 11) + 21 ≤ lo) (hst : (st.map fun v => v.category).sum ≤ 8) (hd : decode cc pc = .ok (.invokevirtual idx, 3)) (hn : pc + 3 = n) (kk : ∀ σ' r, gx_G (tc_V D ob cA) X (k σ' r) σ' n lv (.int r :: st)) : gx_G (tc_V D ob cA) X (gx_bd (kt_T_scheme σ L1) k) σ pc lv (.int L1 :: .ref (ob 0) :: st) :=
  gx_callI hX [.int L1] n rfl (tm_T_scheme _ σ L1) hy_T_scheme tw_813 hlink tw_811 tw_812 tw_70 (gf_recv 0 (show 0 < 55 by decide) rfl rfl) hroom hst hd hn rfl (fun σ' r _ => kk σ' r)
def kt_T_quantified (σ : gx_S) (L1 : Int32) (L2 : Int32) : gx_R :=
  gx_bd (kt_Schemes_has σ L1) (fun σ1 r2 =>
  if r2 = 0 then
    some (σ1, (-1))
  else
    if L2 = 0 then
      gx_bv (tc_at σ1 42 L1) (fun r3 =>
      some (σ1, r3))
    else if L2 = 1 then
      none
    else if L2 = 2 then
      gx_bv (tc_at σ1 43 L1) (fun r4 =>
      some (σ1, r4))
    else some (σ1, (-1)))
set_option maxRecDepth 100000 in
set_option maxHeartbeats 4000000 in
theorem tl_T_quantified {D : va_G} {ob : Nat → Nat} {cA : ClassId} {X : gx_X} (hX : gx_K (tc_V D ob cA) X prog_1_method_17_code "TypeLoom" 3 1 21 (some .int)) (σ : gx_S) (L1 : Int32) (L2 : Int32) : gx_G (tc_V D ob cA) X (kt_T_quantified σ L1 L2) σ 0 [(0, .ref (ob 0)), (1, .int L1), (2, .int L2)] [] := by
  unfold kt_T_quantified
  refine gx_aload_n hX 0 1 dw_T_quantified_0 rfl rfl rfl ?_
  refine tg_0 hX 6 4 (by decide) tw_456 rfl dw_T_quantified_1 rfl ?_
  refine gx_iload_n hX 1 5 dw_T_quantified_4 rfl rfl rfl ?_
  refine tr_Schemes_has hX 8 tw_841 ⟨Nat.le_of_ble_eq_true rfl, Nat.le_of_ble_eq_true rfl⟩ (Nat.le_of_ble_eq_true rfl) dw_T_quantified_5 rfl (fun σ1 r2 => ?_)
  refine gx_if_ne hX 13 11 dw_T_quantified_8 (by decide) rfl (fun _ => ?_) (fun _ => ?_)
  · refine gx_iload_n hX 2 14 dw_T_quantified_13 rfl rfl rfl ?_
    refine gx_tsw3 hX 40 52 69 81 dw_T_quantified_14 (by decide) (by decide) (by decide) (by decide) ?_ ?_ ?_ ?_
    · refine gx_aload_n hX 0 41 dw_T_quantified_40 rfl rfl rfl ?_
      refine tg_0 hX 6 44 (by decide) tw_456 rfl dw_T_quantified_41 rfl ?_
      refine tg_7 hX 10 47 (by decide) tw_401 rfl dw_T_quantified_44 rfl ?_
      refine gx_iload_n hX 1 48 dw_T_quantified_47 rfl rfl rfl ?_
      refine tr_at hX 42 51 (by decide) tw_556 ⟨Nat.le_of_ble_eq_true rfl, Nat.le_of_ble_eq_true rfl⟩ (Nat.le_of_ble_eq_true rfl) dw_T_quantified_48 rfl (fun r3 => ?_)
      exact gx_ret hX dw_T_quantified_51
    · refine gx_aload_n hX 0 53 dw_T_quantified_52 rfl rfl rfl ?_
      refine tg_0 hX 6 56 (by decide) tw_456 rfl dw_T_quantified_53 rfl ?_
      refine gx_iload_n hX 1 57 dw_T_quantified_56 rfl rfl rfl ?_
      exact gx_none
    · refine gx_aload_n hX 0 70 dw_T_quantified_69 rfl rfl rfl ?_
      refine tg_0 hX 6 73 (by decide) tw_456 rfl dw_T_quantified_70 rfl ?_
      refine tg_7 hX 11 76 (by decide) tw_403 rfl dw_T_quantified_73 rfl ?_
      refine gx_iload_n hX 1 77 dw_T_quantified_76 rfl rfl rfl ?_
      refine tr_at hX 43 80 (by decide) tw_556 ⟨Nat.le_of_ble_eq_true rfl, Nat.le_of_ble_eq_true rfl⟩ (Nat.le_of_ble_eq_true rfl) dw_T_quantified_77 rfl (fun r4 => ?_)
      exact gx_ret hX dw_T_quantified_80
    · refine gx_iconst hX (-1) 82 dw_T_quantified_81 (by decide) rfl ?_
      exact gx_ret hX dw_T_quantified_82
  · refine gx_iconst hX (-1) 12 dw_T_quantified_11 (by decide) rfl ?_
    exact gx_ret hX dw_T_quantified_12
def my_T_quantified : MethodName := ⟨"TypeLoom", "quantified", "(II)I"⟩
theorem hy_T_quantified : (my_T_quantified.cls ≠ "java/lang/invoke/MethodHandle" ∧ my_T_quantified.cls ≠ "java/lang/invoke/VarHandle") ∧ (parseMethodDescriptor my_T_quantified.desc).map (fun d => d.parameters.length) = some 2 := by decide +kernel
theorem tm_T_quantified {D : va_G} {ob : Nat → Nat} {cA : ClassId} (l : Launch) (σ : gx_S) (L1 : Int32) (L2 : Int32) : gx_C l (tc_V D ob cA) my_T_quantified prog_1_method_17_code 3 (some .int) 1 21 [.ref (ob 0), .int L1, .int L2] σ (kt_T_quantified σ L1 L2) := gx_met (by decide) rfl (Nat.le_of_ble_eq_true rfl) rfl (fun X _ hX => tl_T_quantified hX σ L1 L2)
theorem tr_T_quantified {D : va_G} {ob : Nat → Nat} {cA : ClassId} {X : gx_X} {cc : ByteArray} {own : String} {nL fr lo : Nat} {rt : Option FieldType} {σ : gx_S} {pc : Nat} {lv : List (Nat × Value)} {st : List Value} (hX : gx_K (tc_V D ob cA) X cc own nL fr lo rt) {idx : Nat} {L1 : Int32} {L2 : Int32} {k : gx_S → Int32 → gx_R} (n : Nat) (hlink : Cond.methodLink own idx ({ cls := "TypeLoom", name := "quantified", desc := "(II)I" } : Jvm.MethodName) ∈ gx_T) (hroom : 1 + 1 ≤ fr ∧ 8 + (3 + 11) + 21 ≤ lo) (hst : (st.map fun v => v.category).sum ≤ 8) (hd : decode cc pc = .ok (.invokevirtual idx, 3)) (hn : pc + 3 = n) (kk : ∀ σ' r, gx_G (tc_V D ob cA) X (k σ' r) σ' n lv (.int r :: st)) : gx_G (tc_V D ob cA) X (gx_bd (kt_T_quantified σ L1 L2) k) σ pc lv (.int L2 :: .int L1 :: .ref (ob 0) :: st) :=
  gx_callI hX [.int L1, .int L2] n rfl (tm_T_quantified _ σ L1 L2) hy_T_quantified tw_840 hlink tw_838 tw_839 tw_70 (gf_recv 0 (show 0 < 55 by decide) rfl rfl) hroom hst hd hn rfl (fun σ' r _ => kk σ' r)
def kt_T_instance (σ : gx_S) (L1 : Int32) : gx_R :=
  gx_bd (kt_Schemes_has σ L1) (fun σ1 r2 =>
  if r2 = 0 then
    some (σ1, (-1))
  else
    none)
set_option maxRecDepth 100000 in
set_option maxHeartbeats 4000000 in
theorem tl_T_instance {D : va_G} {ob : Nat → Nat} {cA : ClassId} {X : gx_X} (hX : gx_K (tc_V D ob cA) X prog_1_method_18_code "TypeLoom" 2 1 21 (some .int)) (σ : gx_S) (L1 : Int32) : gx_G (tc_V D ob cA) X (kt_T_instance σ L1) σ 0 [(0, .ref (ob 0)), (1, .int L1)] [] := by
  unfold kt_T_instance
  refine gx_aload_n hX 0 1 dw_T_instance_0 rfl rfl rfl ?_
  refine tg_0 hX 6 4 (by decide) tw_456 rfl dw_T_instance_1 rfl ?_
  refine gx_iload_n hX 1 5 dw_T_instance_4 rfl rfl rfl ?_
  refine tr_Schemes_has hX 8 tw_841 ⟨Nat.le_of_ble_eq_true rfl, Nat.le_of_ble_eq_true rfl⟩ (Nat.le_of_ble_eq_true rfl) dw_T_instance_5 rfl (fun σ1 r2 => ?_)
  refine gx_if_eq hX 26 11 dw_T_instance_8 (by decide) rfl (fun _ => ?_) (fun _ => ?_)
  · refine gx_iconst hX (-1) 27 dw_T_instance_26 (by decide) rfl ?_
    exact gx_ret hX dw_T_instance_27
  · refine gx_aload_n hX 0 12 dw_T_instance_11 rfl rfl rfl ?_
    refine tg_0 hX 6 15 (by decide) tw_456 rfl dw_T_instance_12 rfl ?_
    refine gx_iload_n hX 1 16 dw_T_instance_15 rfl rfl rfl ?_
    refine gx_aload_n hX 0 17 dw_T_instance_16 rfl rfl rfl ?_
    refine tg_0 hX 7 20 (by decide) tw_457 rfl dw_T_instance_17 rfl ?_
    exact gx_none
def my_T_instance : MethodName := ⟨"TypeLoom", "instance", "(I)I"⟩
theorem hy_T_instance : (my_T_instance.cls ≠ "java/lang/invoke/MethodHandle" ∧ my_T_instance.cls ≠ "java/lang/invoke/VarHandle") ∧ (parseMethodDescriptor my_T_instance.desc).map (fun d => d.parameters.length) = some 1 := by decide +kernel
theorem tm_T_instance {D : va_G} {ob : Nat → Nat} {cA : ClassId} (l : Launch) (σ : gx_S) (L1 : Int32) : gx_C l (tc_V D ob cA) my_T_instance prog_1_method_18_code 2 (some .int) 1 21 [.ref (ob 0), .int L1] σ (kt_T_instance σ L1) := gx_met (by decide) rfl (Nat.le_of_ble_eq_true rfl) rfl (fun X _ hX => tl_T_instance hX σ L1)
theorem tr_T_instance {D : va_G} {ob : Nat → Nat} {cA : ClassId} {X : gx_X} {cc : ByteArray} {own : String} {nL fr lo : Nat} {rt : Option FieldType} {σ : gx_S} {pc : Nat} {lv : List (Nat × Value)} {st : List Value} (hX : gx_K (tc_V D ob cA) X cc own nL fr lo rt) {idx : Nat} {L1 : Int32} {k : gx_S → Int32 → gx_R} (n : Nat) (hlink : Cond.methodLink own idx ({ cls := "TypeLoom", name := "instance", desc := "(I)I" } : Jvm.MethodName) ∈ gx_T) (hroom : 1 + 1 ≤ fr ∧ 8 + (2 + 11) + 21 ≤ lo) (hst : (st.map fun v => v.category).sum ≤ 8) (hd : decode cc pc = .ok (.invokevirtual idx, 3)) (hn : pc + 3 = n) (kk : ∀ σ' r, gx_G (tc_V D ob cA) X (k σ' r) σ' n lv (.int r :: st)) : gx_G (tc_V D ob cA) X (gx_bd (kt_T_instance σ L1) k) σ pc lv (.int L1 :: .ref (ob 0) :: st) :=
  gx_callI hX [.int L1] n rfl (tm_T_instance _ σ L1) hy_T_instance tw_852 hlink tw_850 tw_851 tw_70 (gf_recv 0 (show 0 < 55 by decide) rfl rfl) hroom hst hd hn rfl (fun σ' r _ => kk σ' r)
def kt_T_alike (σ : gx_S) (L1 : Int32) (L2 : Int32) : gx_R :=
  gx_bd (kt_Schemes_has σ L1) (fun σ1 r2 =>
  if r2 = 0 then
    gx_rz σ1 0
  else
    gx_bd (kt_Schemes_has σ1 L2) (fun σ3 r4 =>
    if r4 = 0 then
      gx_rz σ3 0
    else
      none))
set_option maxRecDepth 100000 in
set_option maxHeartbeats 4000000 in
theorem tl_T_alike {D : va_G} {ob : Nat → Nat} {cA : ClassId} {X : gx_X} (hX : gx_K (tc_V D ob cA) X prog_1_method_19_code "TypeLoom" 3 1 21 (some .boolean)) (σ : gx_S) (L1 : Int32) (L2 : Int32) : gx_G (tc_V D ob cA) X (kt_T_alike σ L1 L2) σ 0 [(0, .ref (ob 0)), (1, .int L1), (2, .int L2)] [] := by
  unfold kt_T_alike
  refine gx_aload_n hX 0 1 dw_T_alike_0 rfl rfl rfl ?_
  refine tg_0 hX 6 4 (by decide) tw_456 rfl dw_T_alike_1 rfl ?_
  refine gx_iload_n hX 1 5 dw_T_alike_4 rfl rfl rfl ?_
  refine tr_Schemes_has hX 8 tw_841 ⟨Nat.le_of_ble_eq_true rfl, Nat.le_of_ble_eq_true rfl⟩ (Nat.le_of_ble_eq_true rfl) dw_T_alike_5 rfl (fun σ1 r2 => ?_)
  refine gx_if_eq hX 60 11 dw_T_alike_8 (by decide) rfl (fun _ => ?_) (fun _ => ?_)
  · refine gx_iconst hX 0 61 dw_T_alike_60 (by decide) rfl ?_
    exact gx_retz hX dw_T_alike_61
  · refine gx_aload_n hX 0 12 dw_T_alike_11 rfl rfl rfl ?_
    refine tg_0 hX 6 15 (by decide) tw_456 rfl dw_T_alike_12 rfl ?_
    refine gx_iload_n hX 2 16 dw_T_alike_15 rfl rfl rfl ?_
    refine tr_Schemes_has hX 19 tw_841 ⟨Nat.le_of_ble_eq_true rfl, Nat.le_of_ble_eq_true rfl⟩ (Nat.le_of_ble_eq_true rfl) dw_T_alike_16 rfl (fun σ3 r4 => ?_)
    refine gx_if_eq hX 60 22 dw_T_alike_19 (by decide) rfl (fun _ => ?_) (fun _ => ?_)
    · refine gx_iconst hX 0 61 dw_T_alike_60 (by decide) rfl ?_
      exact gx_retz hX dw_T_alike_61
    · refine gx_aload_n hX 0 23 dw_T_alike_22 rfl rfl rfl ?_
      refine tg_0 hX 6 26 (by decide) tw_456 rfl dw_T_alike_23 rfl ?_
      refine gx_iload_n hX 1 27 dw_T_alike_26 rfl rfl rfl ?_
      exact gx_none
def my_T_alike : MethodName := ⟨"TypeLoom", "alike", "(II)Z"⟩
theorem hy_T_alike : (my_T_alike.cls ≠ "java/lang/invoke/MethodHandle" ∧ my_T_alike.cls ≠ "java/lang/invoke/VarHandle") ∧ (parseMethodDescriptor my_T_alike.desc).map (fun d => d.parameters.length) = some 2 := by decide +kernel
theorem tm_T_alike {D : va_G} {ob : Nat → Nat} {cA : ClassId} (l : Launch) (σ : gx_S) (L1 : Int32) (L2 : Int32) : gx_C l (tc_V D ob cA) my_T_alike prog_1_method_19_code 3 (some .boolean) 1 21 [.ref (ob 0), .int L1, .int L2] σ (kt_T_alike σ L1 L2) := gx_met (by decide) rfl (Nat.le_of_ble_eq_true rfl) rfl (fun X _ hX => tl_T_alike hX σ L1 L2)
theorem tr_T_alike {D : va_G} {ob : Nat → Nat} {cA : ClassId} {X : gx_X} {cc : ByteArray} {own : String} {nL fr lo : Nat} {rt : Option FieldType} {σ : gx_S} {pc : Nat} {lv : List (Nat × Value)} {st : List Value} (hX : gx_K (tc_V D ob cA) X cc own nL fr lo rt) {idx : Nat} {L1 : Int32} {L2 : Int32} {k : gx_S → Int32 → gx_R} (n : Nat) (hlink : Cond.methodLink own idx ({ cls := "TypeLoom", name := "alike", desc := "(II)Z" } : Jvm.MethodName) ∈ gx_T) (hroom : 1 + 1 ≤ fr ∧ 8 + (3 + 11) + 21 ≤ lo) (hst : (st.map fun v => v.category).sum ≤ 8) (hd : decode cc pc = .ok (.invokevirtual idx, 3)) (hn : pc + 3 = n) (kk : ∀ σ' r, gx_G (tc_V D ob cA) X (k σ' r) σ' n lv (.int r :: st)) : gx_G (tc_V D ob cA) X (gx_bd (kt_T_alike σ L1 L2) k) σ pc lv (.int L2 :: .int L1 :: .ref (ob 0) :: st) :=
  gx_callI hX [.int L1, .int L2] n rfl (tm_T_alike _ σ L1 L2) hy_T_alike tw_868 hlink tw_866 tw_867 tw_70 (gf_recv 0 (show 0 < 55 by decide) rfl rfl) hroom hst hd hn rfl (fun σ' r _ => kk σ' r)
def kt_T_clear (σ : gx_S) (L1 : Int32) (L2 : Int32) : gx_R :=
  if L1 < 0 then
    gx_rz σ 0
  else
    if (σ.1 0) < L1 then
      gx_rz σ 0
    else
      gx_bd (kt_Schemes_canKeep σ L2 L1) (fun σ1 r2 =>
      if r2 = 0 then
        gx_rz σ1 0
      else
        gx_sb (gx_si σ1 0 L1) (fun σ3 =>
        gx_bd (kt_Schemes_cutTo σ3 L2) (fun σ4 _ =>
        gx_bd (kt_Web_drop σ4) (fun σ6 _ =>
        gx_bd (kt_Pushed_drop σ6) (fun σ8 _ =>
        gx_sb (gx_si σ8 20 0) (fun σ10 =>
        gx_rz σ10 1))))))
set_option maxRecDepth 100000 in
set_option maxHeartbeats 4000000 in
theorem tl_T_clear {D : va_G} {ob : Nat → Nat} {cA : ClassId} {X : gx_X} (hX : gx_K (tc_V D ob cA) X prog_1_method_20_code "TypeLoom" 3 2 44 (some .boolean)) (σ : gx_S) (L1 : Int32) (L2 : Int32) : gx_G (tc_V D ob cA) X (kt_T_clear σ L1 L2) σ 0 [(0, .ref (ob 0)), (1, .int L1), (2, .int L2)] [] := by
  unfold kt_T_clear
  refine gx_iload_n hX 1 1 dw_T_clear_0 rfl rfl rfl ?_
  refine gx_if_lt hX 27 4 dw_T_clear_1 (by decide) rfl (fun _ => ?_) (fun _ => ?_)
  · refine gx_iconst hX 0 28 dw_T_clear_27 (by decide) rfl ?_
    exact gx_retz hX dw_T_clear_28
  · refine gx_iload_n hX 1 5 dw_T_clear_4 rfl rfl rfl ?_
    refine gx_aload_n hX 0 6 dw_T_clear_5 rfl rfl rfl ?_
    refine tg_0 hX 0 9 (by decide) tw_450 rfl dw_T_clear_6 rfl ?_
    refine tg_1 hX 2 12 (by decide) tw_114 rfl dw_T_clear_9 rfl ?_
    refine gx_icmp_gt hX 27 15 dw_T_clear_12 (by decide) rfl (fun _ => ?_) (fun _ => ?_)
    · refine gx_iconst hX 0 28 dw_T_clear_27 (by decide) rfl ?_
      exact gx_retz hX dw_T_clear_28
    · refine gx_aload_n hX 0 16 dw_T_clear_15 rfl rfl rfl ?_
      refine tg_0 hX 6 19 (by decide) tw_456 rfl dw_T_clear_16 rfl ?_
      refine gx_iload_n hX 2 20 dw_T_clear_19 rfl rfl rfl ?_
      refine gx_iload_n hX 1 21 dw_T_clear_20 rfl rfl rfl ?_
      refine tr_Schemes_canKeep hX 24 tw_881 ⟨Nat.le_of_ble_eq_true rfl, Nat.le_of_ble_eq_true rfl⟩ (Nat.le_of_ble_eq_true rfl) dw_T_clear_21 rfl (fun σ1 r2 => ?_)
      refine gx_if_ne hX 29 27 dw_T_clear_24 (by decide) rfl (fun _ => ?_) (fun _ => ?_)
      · refine gx_aload_n hX 0 30 dw_T_clear_29 rfl rfl rfl ?_
        refine tg_0 hX 0 33 (by decide) tw_450 rfl dw_T_clear_30 rfl ?_
        refine gx_iload_n hX 1 34 dw_T_clear_33 rfl rfl rfl ?_
        refine tp_0 hX 37 tw_114 dw_T_clear_34 rfl (fun σ3 => ?_)
        refine gx_aload_n hX 0 38 dw_T_clear_37 rfl rfl rfl ?_
        refine tg_0 hX 6 41 (by decide) tw_456 rfl dw_T_clear_38 rfl ?_
        refine gx_iload_n hX 2 42 dw_T_clear_41 rfl rfl rfl ?_
        refine tr_Schemes_cutTo hX 45 tw_886 ⟨Nat.le_of_ble_eq_true rfl, Nat.le_of_ble_eq_true rfl⟩ (Nat.le_of_ble_eq_true rfl) dw_T_clear_42 rfl (fun σ4 _ => ?_)
        refine gx_aload_n hX 0 46 dw_T_clear_45 rfl rfl rfl ?_
        refine tg_0 hX 2 49 (by decide) tw_452 rfl dw_T_clear_46 rfl ?_
        refine tr_Web_drop hX 52 tw_890 ⟨Nat.le_of_ble_eq_true rfl, Nat.le_of_ble_eq_true rfl⟩ (Nat.le_of_ble_eq_true rfl) dw_T_clear_49 rfl (fun σ6 _ => ?_)
        refine gx_aload_n hX 0 53 dw_T_clear_52 rfl rfl rfl ?_
        refine tg_0 hX 1 56 (by decide) tw_451 rfl dw_T_clear_53 rfl ?_
        refine tr_Pushed_drop hX 59 tw_561 ⟨Nat.le_of_ble_eq_true rfl, Nat.le_of_ble_eq_true rfl⟩ (Nat.le_of_ble_eq_true rfl) dw_T_clear_56 rfl (fun σ8 _ => ?_)
        refine gx_aload_n hX 0 60 dw_T_clear_59 rfl rfl rfl ?_
        refine gx_iconst hX 0 61 dw_T_clear_60 (by decide) rfl ?_
        refine tp_20 hX 64 tw_457 dw_T_clear_61 rfl (fun σ10 => ?_)
        refine gx_iconst hX 1 65 dw_T_clear_64 (by decide) rfl ?_
        exact gx_retz hX dw_T_clear_65
      · refine gx_iconst hX 0 28 dw_T_clear_27 (by decide) rfl ?_
        exact gx_retz hX dw_T_clear_28
def my_T_clear : MethodName := ⟨"TypeLoom", "clear", "(II)Z"⟩
theorem hy_T_clear : (my_T_clear.cls ≠ "java/lang/invoke/MethodHandle" ∧ my_T_clear.cls ≠ "java/lang/invoke/VarHandle") ∧ (parseMethodDescriptor my_T_clear.desc).map (fun d => d.parameters.length) = some 2 := by decide +kernel
theorem tm_T_clear {D : va_G} {ob : Nat → Nat} {cA : ClassId} (l : Launch) (σ : gx_S) (L1 : Int32) (L2 : Int32) : gx_C l (tc_V D ob cA) my_T_clear prog_1_method_20_code 3 (some .boolean) 2 44 [.ref (ob 0), .int L1, .int L2] σ (kt_T_clear σ L1 L2) := gx_met (by decide) rfl (Nat.le_of_ble_eq_true rfl) rfl (fun X _ hX => tl_T_clear hX σ L1 L2)
theorem tr_T_clear {D : va_G} {ob : Nat → Nat} {cA : ClassId} {X : gx_X} {cc : ByteArray} {own : String} {nL fr lo : Nat} {rt : Option FieldType} {σ : gx_S} {pc : Nat} {lv : List (Nat × Value)} {st : List Value} (hX : gx_K (tc_V D ob cA) X cc own nL fr lo rt) {idx : Nat} {L1 : Int32} {L2 : Int32} {k : gx_S → Int32 → gx_R} (n : Nat) (hlink : Cond.methodLink own idx ({ cls := "TypeLoom", name := "clear", desc := "(II)Z" } : Jvm.MethodName) ∈ gx_T) (hroom : 2 + 1 ≤ fr ∧ 8 + (3 + 11) + 44 ≤ lo) (hst : (st.map fun v => v.category).sum ≤ 8) (hd : decode cc pc = .ok (.invokevirtual idx, 3)) (hn : pc + 3 = n) (kk : ∀ σ' r, gx_G (tc_V D ob cA) X (k σ' r) σ' n lv (.int r :: st)) : gx_G (tc_V D ob cA) X (gx_bd (kt_T_clear σ L1 L2) k) σ pc lv (.int L2 :: .int L1 :: .ref (ob 0) :: st) :=
  gx_callI hX [.int L1, .int L2] n rfl (tm_T_clear _ σ L1 L2) hy_T_clear tw_880 hlink tw_878 tw_879 tw_70 (gf_recv 0 (show 0 < 55 by decide) rfl rfl) hroom hst hd hn rfl (fun σ' r _ => kk σ' r)
def kt_T_count (σ : gx_S) (L1 : Int32) : gx_R :=
  if L1 = 0 then
    some (σ, (σ.1 0))
  else if L1 = 1 then
    some (σ, (σ.1 5))
  else if L1 = 2 then
    some (σ, (σ.1 1))
  else if L1 = 3 then
    some (σ, (σ.1 17))
  else if L1 = 4 then
    some (σ, (σ.1 6))
  else if L1 = 5 then
    some (σ, (σ.1 18))
  else if L1 = 6 then
    some (σ, (σ.1 19))
  else if L1 = 7 then
    some (σ, (σ.1 7))
  else if L1 = 8 then
    some (σ, (σ.1 20))
  else some (σ, (-1))
set_option maxRecDepth 100000 in
set_option maxHeartbeats 4000000 in
theorem tl_T_count {D : va_G} {ob : Nat → Nat} {cA : ClassId} {X : gx_X} (hX : gx_K (tc_V D ob cA) X prog_1_method_21_code "TypeLoom" 2 0 0 (some .int)) (σ : gx_S) (L1 : Int32) : gx_G (tc_V D ob cA) X (kt_T_count σ L1) σ 0 [(0, .ref (ob 0)), (1, .int L1)] [] := by
  unfold kt_T_count
  refine gx_iload_n hX 1 1 dw_T_count_0 rfl rfl rfl ?_
  refine gx_tsw9 hX 52 60 68 76 84 92 100 108 116 121 dw_T_count_1 (by decide) (by decide) (by decide) (by decide) (by decide) (by decide) (by decide) (by decide) (by decide) (by decide) ?_ ?_ ?_ ?_ ?_ ?_ ?_ ?_ ?_ ?_
  · refine gx_aload_n hX 0 53 dw_T_count_52 rfl rfl rfl ?_
    refine tg_0 hX 0 56 (by decide) tw_450 rfl dw_T_count_53 rfl ?_
    refine tg_1 hX 2 59 (by decide) tw_114 rfl dw_T_count_56 rfl ?_
    exact gx_ret hX dw_T_count_59
  · refine gx_aload_n hX 0 61 dw_T_count_60 rfl rfl rfl ?_
    refine tg_0 hX 2 64 (by decide) tw_452 rfl dw_T_count_61 rfl ?_
    refine tg_3 hX 14 67 (by decide) tw_204 rfl dw_T_count_64 rfl ?_
    exact gx_ret hX dw_T_count_67
  · refine gx_aload_n hX 0 69 dw_T_count_68 rfl rfl rfl ?_
    refine tg_0 hX 1 72 (by decide) tw_451 rfl dw_T_count_69 rfl ?_
    refine tg_2 hX 2 75 (by decide) tw_135 rfl dw_T_count_72 rfl ?_
    exact gx_ret hX dw_T_count_75
  · refine gx_aload_n hX 0 77 dw_T_count_76 rfl rfl rfl ?_
    refine tg_0 hX 6 80 (by decide) tw_456 rfl dw_T_count_77 rfl ?_
    refine tg_7 hX 15 83 (by decide) tw_408 rfl dw_T_count_80 rfl ?_
    exact gx_ret hX dw_T_count_83
  · refine gx_aload_n hX 0 85 dw_T_count_84 rfl rfl rfl ?_
    refine tg_0 hX 2 88 (by decide) tw_452 rfl dw_T_count_85 rfl ?_
    refine tg_3 hX 15 91 (by decide) tw_206 rfl dw_T_count_88 rfl ?_
    exact gx_ret hX dw_T_count_91
  · refine gx_aload_n hX 0 93 dw_T_count_92 rfl rfl rfl ?_
    refine tg_0 hX 6 96 (by decide) tw_456 rfl dw_T_count_93 rfl ?_
    refine tg_7 hX 16 99 (by decide) tw_410 rfl dw_T_count_96 rfl ?_
    exact gx_ret hX dw_T_count_99
  · refine gx_aload_n hX 0 101 dw_T_count_100 rfl rfl rfl ?_
    refine tg_0 hX 6 104 (by decide) tw_456 rfl dw_T_count_101 rfl ?_
    refine tg_7 hX 17 107 (by decide) tw_412 rfl dw_T_count_104 rfl ?_
    exact gx_ret hX dw_T_count_107
  · refine gx_aload_n hX 0 109 dw_T_count_108 rfl rfl rfl ?_
    refine tg_0 hX 2 112 (by decide) tw_452 rfl dw_T_count_109 rfl ?_
    refine tg_3 hX 16 115 (by decide) tw_208 rfl dw_T_count_112 rfl ?_
    exact gx_ret hX dw_T_count_115
  · refine gx_aload_n hX 0 117 dw_T_count_116 rfl rfl rfl ?_
    refine tg_0 hX 7 120 (by decide) tw_457 rfl dw_T_count_117 rfl ?_
    exact gx_ret hX dw_T_count_120
  · refine gx_iconst hX (-1) 122 dw_T_count_121 (by decide) rfl ?_
    exact gx_ret hX dw_T_count_122
def my_T_count : MethodName := ⟨"TypeLoom", "count", "(I)I"⟩
theorem hy_T_count : (my_T_count.cls ≠ "java/lang/invoke/MethodHandle" ∧ my_T_count.cls ≠ "java/lang/invoke/VarHandle") ∧ (parseMethodDescriptor my_T_count.desc).map (fun d => d.parameters.length) = some 1 := by decide +kernel
theorem tm_T_count {D : va_G} {ob : Nat → Nat} {cA : ClassId} (l : Launch) (σ : gx_S) (L1 : Int32) : gx_C l (tc_V D ob cA) my_T_count prog_1_method_21_code 2 (some .int) 0 0 [.ref (ob 0), .int L1] σ (kt_T_count σ L1) := gx_met (by decide) rfl (Nat.le_of_ble_eq_true rfl) rfl (fun X _ hX => tl_T_count hX σ L1)
theorem tr_T_count {D : va_G} {ob : Nat → Nat} {cA : ClassId} {X : gx_X} {cc : ByteArray} {own : String} {nL fr lo : Nat} {rt : Option FieldType} {σ : gx_S} {pc : Nat} {lv : List (Nat × Value)} {st : List Value} (hX : gx_K (tc_V D ob cA) X cc own nL fr lo rt) {idx : Nat} {L1 : Int32} {k : gx_S → Int32 → gx_R} (n : Nat) (hlink : Cond.methodLink own idx ({ cls := "TypeLoom", name := "count", desc := "(I)I" } : Jvm.MethodName) ∈ gx_T) (hroom : 0 + 1 ≤ fr ∧ 8 + (2 + 11) + 0 ≤ lo) (hst : (st.map fun v => v.category).sum ≤ 8) (hd : decode cc pc = .ok (.invokevirtual idx, 3)) (hn : pc + 3 = n) (kk : ∀ σ' r, gx_G (tc_V D ob cA) X (k σ' r) σ' n lv (.int r :: st)) : gx_G (tc_V D ob cA) X (gx_bd (kt_T_count σ L1) k) σ pc lv (.int L1 :: .ref (ob 0) :: st) :=
  gx_callI hX [.int L1] n rfl (tm_T_count _ σ L1) hy_T_count tw_897 hlink tw_895 tw_896 tw_70 (gf_recv 0 (show 0 < 55 by decide) rfl rfl) hroom hst hd hn rfl (fun σ' r _ => kk σ' r)
