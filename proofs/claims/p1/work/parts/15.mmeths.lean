def km_M_isType (σ : gx_S) (L1 : Int32) : gx_R :=
  if L1 < 0 then
    gx_rz σ 0
  else
    if (σ.1 1) ≤ L1 then
      gx_rz σ 0
    else
      gx_rz σ 1
set_option maxRecDepth 100000 in
set_option maxHeartbeats 4000000 in
theorem tl_M_isType {D : va_G} {ob : Nat → Nat} {cI cB cS cZ : ClassId} {X : gx_X} (hX : gx_K (md_V D ob cI cB cS cZ) X prog_11_method_3_code "TypeLoomModel" 2 0 0 (some .boolean)) (σ : gx_S) (L1 : Int32) : gx_G (md_V D ob cI cB cS cZ) X (km_M_isType σ L1) σ 0 [(0, .ref (ob 0)), (1, .int L1)] [] := by
  unfold km_M_isType
  refine gx_iload_n hX 1 1 dw_M_isType_0 rfl rfl rfl ?_
  refine gx_if_lt hX 16 4 dw_M_isType_1 (by decide) rfl (fun _ => ?_) (fun _ => ?_)
  · refine gx_iconst hX 0 17 dw_M_isType_16 (by decide) rfl ?_
    exact gx_retz hX dw_M_isType_17
  · refine gx_iload_n hX 1 5 dw_M_isType_4 rfl rfl rfl ?_
    refine gx_aload_n hX 0 6 dw_M_isType_5 rfl rfl rfl ?_
    refine mg_0 hX 3 9 (by decide) tw_911 rfl dw_M_isType_6 rfl ?_
    refine gx_icmp_ge hX 16 12 dw_M_isType_9 (by decide) rfl (fun _ => ?_) (fun _ => ?_)
    · refine gx_iconst hX 0 17 dw_M_isType_16 (by decide) rfl ?_
      exact gx_retz hX dw_M_isType_17
    · refine gx_iconst hX 1 13 dw_M_isType_12 (by decide) rfl ?_
      refine gx_goto hX 17 dw_M_isType_13 (by decide) ?_
      exact gx_retz hX dw_M_isType_17
def my_M_isType : MethodName := ⟨"TypeLoomModel", "isType", "(I)Z"⟩
theorem hy_M_isType : (my_M_isType.cls ≠ "java/lang/invoke/MethodHandle" ∧ my_M_isType.cls ≠ "java/lang/invoke/VarHandle") ∧ (parseMethodDescriptor my_M_isType.desc).map (fun d => d.parameters.length) = some 1 := by decide +kernel
theorem tm_M_isType {D : va_G} {ob : Nat → Nat} {cI cB cS cZ : ClassId} (l : Launch) (σ : gx_S) (L1 : Int32) : gx_C l (md_V D ob cI cB cS cZ) my_M_isType prog_11_method_3_code 2 (some .boolean) 0 0 [.ref (ob 0), .int L1] σ (km_M_isType σ L1) := gx_met (by decide) rfl (Nat.le_of_ble_eq_true rfl) rfl (fun X _ hX => tl_M_isType hX σ L1)
theorem tr_M_isType {D : va_G} {ob : Nat → Nat} {cI cB cS cZ : ClassId} {X : gx_X} {cc : ByteArray} {own : String} {nL fr lo : Nat} {rt : Option FieldType} {σ : gx_S} {pc : Nat} {lv : List (Nat × Value)} {st : List Value} (hX : gx_K (md_V D ob cI cB cS cZ) X cc own nL fr lo rt) {idx : Nat} {L1 : Int32} {k : gx_S → Int32 → gx_R} (n : Nat) (hlink : Cond.methodLink own idx ({ cls := "TypeLoomModel", name := "isType", desc := "(I)Z" } : Jvm.MethodName) ∈ gx_T) (hroom : 0 + 1 ≤ fr ∧ 8 + (2 + 11) + 0 ≤ lo) (hst : (st.map fun v => v.category).sum ≤ 8) (hd : decode cc pc = .ok (.invokevirtual idx, 3)) (hn : pc + 3 = n) (kk : ∀ σ' r, gx_G (md_V D ob cI cB cS cZ) X (k σ' r) σ' n lv (.int r :: st)) : gx_G (md_V D ob cI cB cS cZ) X (gx_bd (km_M_isType σ L1) k) σ pc lv (.int L1 :: .ref (ob 0) :: st) :=
  gx_callI hX [.int L1] n rfl (tm_M_isType _ σ L1) hy_M_isType tw_1143 hlink tw_1142 tw_28 tw_79 (gf_recv 0 (show 0 < 1 by decide) rfl rfl) hroom hst hd hn rfl (fun σ' r _ => kk σ' r)
def km_M_make (σ : gx_S) (L1 : Int32) (L2 : Int32) : gx_R :=
  gx_bv ((σ.1 1)) (fun x1 =>
  gx_sb (gx_si σ 1 ((((σ.1 1)) + 1))) (fun σ2 =>
  gx_st σ2 2 24576 x1 (vp_nar .byte (((Int32.toInt8 L1).toInt32))) (fun σ3 =>
  gx_st σ3 3 24576 x1 L2 (fun σ4 =>
  gx_st σ4 4 24576 x1 ((σ4.1 2)) (fun σ5 =>
  gx_st σ5 5 24576 x1 (vp_nar .short 0) (fun σ6 =>
  gx_st σ6 6 24576 x1 (-1) (fun σ7 =>
  gx_st σ7 7 24576 x1 (vp_nar .byte (((Int32.toInt8 ((σ7.1 7))).toInt32))) (fun σ8 =>
  gx_st σ8 8 24576 x1 (vp_nar .boolean 0) (fun σ9 =>
  gx_st σ9 9 24576 x1 0 (fun σ10 =>
  gx_st σ10 10 24576 x1 (-1) (fun σ11 =>
  some (σ11, x1))))))))))))
set_option maxRecDepth 100000 in
set_option maxHeartbeats 4000000 in
theorem tl_M_make {D : va_G} {ob : Nat → Nat} {cI cB cS cZ : ClassId} {X : gx_X} (hX : gx_K (md_V D ob cI cB cS cZ) X prog_11_method_4_code "TypeLoomModel" 4 0 0 (some .int)) (σ : gx_S) (L1 : Int32) (L2 : Int32) : gx_G (md_V D ob cI cB cS cZ) X (km_M_make σ L1 L2) σ 0 [(0, .ref (ob 0)), (1, .int L1), (2, .int L2)] [] := by
  unfold km_M_make
  refine gx_aload_n hX 0 1 dw_M_make_0 rfl rfl rfl ?_
  refine mg_0 hX 3 4 (by decide) tw_911 rfl dw_M_make_1 rfl ?_
  refine gx_bvN (fun x1 => ?_)
  refine gx_istore_n hX [(3, .int x1), (0, .ref (ob 0)), (1, .int L1), (2, .int L2)] 5 dw_M_make_4 rfl (by decide) rfl rfl ?_
  refine gx_aload_n hX 1 6 dw_M_make_5 rfl rfl rfl ?_
  refine gx_dup hX 7 dw_M_make_6 rfl rfl ?_
  refine mg_0 hX 3 10 (by decide) tw_911 rfl dw_M_make_7 rfl ?_
  refine gx_iconst hX 1 11 dw_M_make_10 (by decide) rfl ?_
  refine gx_iadd hX 12 dw_M_make_11 rfl ?_
  refine mp_1 hX 15 tw_911 dw_M_make_12 rfl (fun σ2 => ?_)
  refine gx_aload_n hX 1 16 dw_M_make_15 rfl rfl rfl ?_
  refine mg_0 hX 4 19 (by decide) tw_912 rfl dw_M_make_16 rfl ?_
  refine gx_iload_n hX 0 20 dw_M_make_19 rfl rfl rfl ?_
  refine gx_iload_n hX 2 21 dw_M_make_20 rfl rfl rfl ?_
  refine gx_i2b hX 22 dw_M_make_21 rfl ?_
  refine gf_bast (u := md_u ob cI cB cS cZ) hX 2 3 1 23 (show 2 < 52 by decide) rfl rfl (fun _ _ _ => rfl) dw_M_make_22 rfl (fun σ3 => ?_)
  refine gx_aload_n hX 1 24 dw_M_make_23 rfl rfl rfl ?_
  refine mg_0 hX 5 27 (by decide) tw_913 rfl dw_M_make_24 rfl ?_
  refine gx_iload_n hX 0 28 dw_M_make_27 rfl rfl rfl ?_
  refine gx_iload_n hX 3 29 dw_M_make_28 rfl rfl rfl ?_
  refine gf_iast (u := md_u ob cI cB cS cZ) hX 3 4 0 30 (show 3 < 52 by decide) rfl rfl (fun _ _ _ => rfl) dw_M_make_29 rfl (fun σ4 => ?_)
  refine gx_aload_n hX 1 31 dw_M_make_30 rfl rfl rfl ?_
  refine mg_0 hX 6 34 (by decide) tw_914 rfl dw_M_make_31 rfl ?_
  refine gx_iload_n hX 0 35 dw_M_make_34 rfl rfl rfl ?_
  refine gx_aload_n hX 1 36 dw_M_make_35 rfl rfl rfl ?_
  refine mg_0 hX 13 39 (by decide) tw_921 rfl dw_M_make_36 rfl ?_
  refine gf_iast (u := md_u ob cI cB cS cZ) hX 4 5 0 40 (show 4 < 52 by decide) rfl rfl (fun _ _ _ => rfl) dw_M_make_39 rfl (fun σ5 => ?_)
  refine gx_aload_n hX 1 41 dw_M_make_40 rfl rfl rfl ?_
  refine mg_0 hX 7 44 (by decide) tw_915 rfl dw_M_make_41 rfl ?_
  refine gx_iload_n hX 0 45 dw_M_make_44 rfl rfl rfl ?_
  refine gx_iconst hX 0 46 dw_M_make_45 (by decide) rfl ?_
  refine gf_sast (u := md_u ob cI cB cS cZ) hX 5 6 2 47 (show 5 < 52 by decide) rfl rfl (fun _ _ _ => rfl) dw_M_make_46 rfl (fun σ6 => ?_)
  refine gx_aload_n hX 1 48 dw_M_make_47 rfl rfl rfl ?_
  refine mg_0 hX 8 51 (by decide) tw_916 rfl dw_M_make_48 rfl ?_
  refine gx_iload_n hX 0 52 dw_M_make_51 rfl rfl rfl ?_
  refine gx_iconst hX (-1) 53 dw_M_make_52 (by decide) rfl ?_
  refine gf_iast (u := md_u ob cI cB cS cZ) hX 6 7 0 54 (show 6 < 52 by decide) rfl rfl (fun _ _ _ => rfl) dw_M_make_53 rfl (fun σ7 => ?_)
  refine gx_aload_n hX 1 55 dw_M_make_54 rfl rfl rfl ?_
  refine mg_0 hX 9 58 (by decide) tw_917 rfl dw_M_make_55 rfl ?_
  refine gx_iload_n hX 0 59 dw_M_make_58 rfl rfl rfl ?_
  refine gx_aload_n hX 1 60 dw_M_make_59 rfl rfl rfl ?_
  refine mg_0 hX 29 63 (by decide) tw_937 rfl dw_M_make_60 rfl ?_
  refine gx_i2b hX 64 dw_M_make_63 rfl ?_
  refine gf_bast (u := md_u ob cI cB cS cZ) hX 7 8 1 65 (show 7 < 52 by decide) rfl rfl (fun _ _ _ => rfl) dw_M_make_64 rfl (fun σ8 => ?_)
  refine gx_aload_n hX 1 66 dw_M_make_65 rfl rfl rfl ?_
  refine mg_0 hX 10 69 (by decide) tw_918 rfl dw_M_make_66 rfl ?_
  refine gx_iload_n hX 0 70 dw_M_make_69 rfl rfl rfl ?_
  refine gx_iconst hX 0 71 dw_M_make_70 (by decide) rfl ?_
  refine gf_zast (u := md_u ob cI cB cS cZ) hX 8 9 3 72 (show 8 < 52 by decide) rfl rfl (fun _ _ _ => rfl) dw_M_make_71 rfl (fun σ9 => ?_)
  refine gx_aload_n hX 1 73 dw_M_make_72 rfl rfl rfl ?_
  refine mg_0 hX 11 76 (by decide) tw_919 rfl dw_M_make_73 rfl ?_
  refine gx_iload_n hX 0 77 dw_M_make_76 rfl rfl rfl ?_
  refine gx_iconst hX 0 78 dw_M_make_77 (by decide) rfl ?_
  refine gf_iast (u := md_u ob cI cB cS cZ) hX 9 10 0 79 (show 9 < 52 by decide) rfl rfl (fun _ _ _ => rfl) dw_M_make_78 rfl (fun σ10 => ?_)
  refine gx_aload_n hX 1 80 dw_M_make_79 rfl rfl rfl ?_
  refine mg_0 hX 12 83 (by decide) tw_920 rfl dw_M_make_80 rfl ?_
  refine gx_iload_n hX 0 84 dw_M_make_83 rfl rfl rfl ?_
  refine gx_iconst hX (-1) 85 dw_M_make_84 (by decide) rfl ?_
  refine gf_iast (u := md_u ob cI cB cS cZ) hX 10 11 0 86 (show 10 < 52 by decide) rfl rfl (fun _ _ _ => rfl) dw_M_make_85 rfl (fun σ11 => ?_)
  refine gx_iload_n hX 0 87 dw_M_make_86 rfl rfl rfl ?_
  exact gx_ret hX dw_M_make_87
def my_M_make : MethodName := ⟨"TypeLoomModel", "make", "(II)I"⟩
theorem hy_M_make : (my_M_make.cls ≠ "java/lang/invoke/MethodHandle" ∧ my_M_make.cls ≠ "java/lang/invoke/VarHandle") ∧ (parseMethodDescriptor my_M_make.desc).map (fun d => d.parameters.length) = some 2 := by decide +kernel
theorem tm_M_make {D : va_G} {ob : Nat → Nat} {cI cB cS cZ : ClassId} (l : Launch) (σ : gx_S) (L1 : Int32) (L2 : Int32) : gx_C l (md_V D ob cI cB cS cZ) my_M_make prog_11_method_4_code 4 (some .int) 0 0 [.ref (ob 0), .int L1, .int L2] σ (km_M_make σ L1 L2) := gx_met (by decide) rfl (Nat.le_of_ble_eq_true rfl) rfl (fun X _ hX => tl_M_make hX σ L1 L2)
theorem tr_M_make {D : va_G} {ob : Nat → Nat} {cI cB cS cZ : ClassId} {X : gx_X} {cc : ByteArray} {own : String} {nL fr lo : Nat} {rt : Option FieldType} {σ : gx_S} {pc : Nat} {lv : List (Nat × Value)} {st : List Value} (hX : gx_K (md_V D ob cI cB cS cZ) X cc own nL fr lo rt) {idx : Nat} {L1 : Int32} {L2 : Int32} {k : gx_S → Int32 → gx_R} (n : Nat) (hlink : Cond.methodLink own idx ({ cls := "TypeLoomModel", name := "make", desc := "(II)I" } : Jvm.MethodName) ∈ gx_T) (hroom : 0 + 1 ≤ fr ∧ 8 + (4 + 11) + 0 ≤ lo) (hst : (st.map fun v => v.category).sum ≤ 8) (hd : decode cc pc = .ok (.invokevirtual idx, 3)) (hn : pc + 3 = n) (kk : ∀ σ' r, gx_G (md_V D ob cI cB cS cZ) X (k σ' r) σ' n lv (.int r :: st)) : gx_G (md_V D ob cI cB cS cZ) X (gx_bd (km_M_make σ L1 L2) k) σ pc lv (.int L2 :: .int L1 :: .ref (ob 0) :: st) :=
  gx_callI hX [.int L1, .int L2] n rfl (tm_M_make _ σ L1 L2) hy_M_make tw_1155 hlink tw_1154 tw_30 tw_79 (gf_recv 0 (show 0 < 1 by decide) rfl rfl) hroom hst hd hn rfl (fun σ' r _ => kk σ' r)
def km_M_addPart (σ : gx_S) (L1 : Int32) (L2 : Int32) (L3 : Int32) : gx_R :=
  gx_st σ 11 65536 ((σ.1 2)) (vp_nar .short (((Int32.toInt16 L3).toInt32))) (fun σ1 =>
  gx_st σ1 12 65536 ((σ1.1 2)) (vp_nar .short (((Int32.toInt16 L2).toInt32))) (fun σ2 =>
  gx_sb (gx_si σ2 2 ((((σ2.1 2)) + 1))) (fun σ3 =>
  gx_ld σ3 5 24576 L1 (fun r4 =>
  gx_st σ3 5 24576 L1 (vp_nar .short (((Int32.toInt16 ((r4 + 1))).toInt32))) (fun σ5 =>
  some (σ5, 0))))))
set_option maxRecDepth 100000 in
set_option maxHeartbeats 4000000 in
theorem tl_M_addPart {D : va_G} {ob : Nat → Nat} {cI cB cS cZ : ClassId} {X : gx_X} (hX : gx_K (md_V D ob cI cB cS cZ) X prog_11_method_5_code "TypeLoomModel" 4 0 0 none) (σ : gx_S) (L1 : Int32) (L2 : Int32) (L3 : Int32) : gx_G (md_V D ob cI cB cS cZ) X (km_M_addPart σ L1 L2 L3) σ 0 [(0, .ref (ob 0)), (1, .int L1), (2, .int L2), (3, .int L3)] [] := by
  unfold km_M_addPart
  refine gx_aload_n hX 0 1 dw_M_addPart_0 rfl rfl rfl ?_
  refine mg_0 hX 14 4 (by decide) tw_922 rfl dw_M_addPart_1 rfl ?_
  refine gx_aload_n hX 0 5 dw_M_addPart_4 rfl rfl rfl ?_
  refine mg_0 hX 13 8 (by decide) tw_921 rfl dw_M_addPart_5 rfl ?_
  refine gx_iload_n hX 3 9 dw_M_addPart_8 rfl rfl rfl ?_
  refine gx_i2s hX 10 dw_M_addPart_9 rfl ?_
  refine gf_sast (u := md_u ob cI cB cS cZ) hX 11 12 2 11 (show 11 < 52 by decide) rfl rfl (fun _ _ _ => rfl) dw_M_addPart_10 rfl (fun σ1 => ?_)
  refine gx_aload_n hX 0 12 dw_M_addPart_11 rfl rfl rfl ?_
  refine mg_0 hX 15 15 (by decide) tw_923 rfl dw_M_addPart_12 rfl ?_
  refine gx_aload_n hX 0 16 dw_M_addPart_15 rfl rfl rfl ?_
  refine mg_0 hX 13 19 (by decide) tw_921 rfl dw_M_addPart_16 rfl ?_
  refine gx_iload_n hX 2 20 dw_M_addPart_19 rfl rfl rfl ?_
  refine gx_i2s hX 21 dw_M_addPart_20 rfl ?_
  refine gf_sast (u := md_u ob cI cB cS cZ) hX 12 13 2 22 (show 12 < 52 by decide) rfl rfl (fun _ _ _ => rfl) dw_M_addPart_21 rfl (fun σ2 => ?_)
  refine gx_aload_n hX 0 23 dw_M_addPart_22 rfl rfl rfl ?_
  refine gx_dup hX 24 dw_M_addPart_23 rfl rfl ?_
  refine mg_0 hX 13 27 (by decide) tw_921 rfl dw_M_addPart_24 rfl ?_
  refine gx_iconst hX 1 28 dw_M_addPart_27 (by decide) rfl ?_
  refine gx_iadd hX 29 dw_M_addPart_28 rfl ?_
  refine mp_2 hX 32 tw_921 dw_M_addPart_29 rfl (fun σ3 => ?_)
  refine gx_aload_n hX 0 33 dw_M_addPart_32 rfl rfl rfl ?_
  refine mg_0 hX 7 36 (by decide) tw_915 rfl dw_M_addPart_33 rfl ?_
  refine gx_iload_n hX 1 37 dw_M_addPart_36 rfl rfl rfl ?_
  refine gx_dup2 hX 38 dw_M_addPart_37 rfl rfl rfl ?_
  refine gf_sald (u := md_u ob cI cB cS cZ) hX 5 6 2 39 (show 5 < 52 by decide) rfl rfl dw_M_addPart_38 rfl (fun r4 => ?_)
  refine gx_iconst hX 1 40 dw_M_addPart_39 (by decide) rfl ?_
  refine gx_iadd hX 41 dw_M_addPart_40 rfl ?_
  refine gx_i2s hX 42 dw_M_addPart_41 rfl ?_
  refine gf_sast (u := md_u ob cI cB cS cZ) hX 5 6 2 43 (show 5 < 52 by decide) rfl rfl (fun _ _ _ => rfl) dw_M_addPart_42 rfl (fun σ5 => ?_)
  exact gx_retv hX dw_M_addPart_43
def my_M_addPart : MethodName := ⟨"TypeLoomModel", "addPart", "(III)V"⟩
theorem hy_M_addPart : (my_M_addPart.cls ≠ "java/lang/invoke/MethodHandle" ∧ my_M_addPart.cls ≠ "java/lang/invoke/VarHandle") ∧ (parseMethodDescriptor my_M_addPart.desc).map (fun d => d.parameters.length) = some 3 := by decide +kernel
theorem tm_M_addPart {D : va_G} {ob : Nat → Nat} {cI cB cS cZ : ClassId} (l : Launch) (σ : gx_S) (L1 : Int32) (L2 : Int32) (L3 : Int32) : gx_C l (md_V D ob cI cB cS cZ) my_M_addPart prog_11_method_5_code 4 none 0 0 [.ref (ob 0), .int L1, .int L2, .int L3] σ (km_M_addPart σ L1 L2 L3) := gx_met (by decide) rfl (Nat.le_of_ble_eq_true rfl) rfl (fun X _ hX => tl_M_addPart hX σ L1 L2 L3)
theorem tr_M_addPart {D : va_G} {ob : Nat → Nat} {cI cB cS cZ : ClassId} {X : gx_X} {cc : ByteArray} {own : String} {nL fr lo : Nat} {rt : Option FieldType} {σ : gx_S} {pc : Nat} {lv : List (Nat × Value)} {st : List Value} (hX : gx_K (md_V D ob cI cB cS cZ) X cc own nL fr lo rt) {idx : Nat} {L1 : Int32} {L2 : Int32} {L3 : Int32} {k : gx_S → Int32 → gx_R} (n : Nat) (hlink : Cond.methodLink own idx ({ cls := "TypeLoomModel", name := "addPart", desc := "(III)V" } : Jvm.MethodName) ∈ gx_T) (hroom : 0 + 1 ≤ fr ∧ 8 + (4 + 11) + 0 ≤ lo) (hst : (st.map fun v => v.category).sum ≤ 8) (hd : decode cc pc = .ok (.invokevirtual idx, 3)) (hn : pc + 3 = n) (kk : ∀ σ' r, gx_G (md_V D ob cI cB cS cZ) X (k σ' r) σ' n lv (st)) : gx_G (md_V D ob cI cB cS cZ) X (gx_bd (km_M_addPart σ L1 L2 L3) k) σ pc lv (.int L3 :: .int L2 :: .int L1 :: .ref (ob 0) :: st) :=
  gx_callW hX [.int L1, .int L2, .int L3] n (tm_M_addPart _ σ L1 L2 L3) hy_M_addPart tw_1159 hlink tw_1158 tw_31 tw_79 (gf_recv 0 (show 0 < 1 by decide) rfl rfl) hroom hst hd hn rfl (fun σ' r _ => kk σ' r)
def km_M_areAll (σ : gx_S) (L1 : Int32) : gx_R :=
  gx_lp (α := gx_S → Int32 → Int32 → Int32 → gx_R) (fun _ _ _ _ => none) (fun again4 (σ1 : gx_S) (L1 : Int32) (L2 : Int32) (L3 : Int32) =>
    if (σ1.1 6) ≤ L3 then
    gx_rz σ1 L2
  else
    gx_jn (fun (σ2 : gx_S) (L1 : Int32) (L3 : Int32) (S0 : Int32) =>
      gx_bv (L3 + 1) (fun x3 =>
      again4 σ2 L1 S0 x3)) (fun j39 =>
    gx_jn (fun (σ4 : gx_S) (L1 : Int32) (L3 : Int32) =>
      j39 σ4 L1 L3 0) (fun j38 =>
    if L2 = 0 then
      j38 σ1 L1 L3
    else
      gx_ld σ1 20 128 L3 (fun r5 =>
      gx_jn (fun (σ6 : gx_S) (L1 : Int32) (L3 : Int32) (S0 : Int32) =>
        if S0 = L1 then
          j39 σ6 L1 L3 1
        else
          j38 σ6 L1 L3) (fun j30 =>
      if r5 < 0 then
        j30 σ1 L1 L3 0
      else
        j30 σ1 L1 L3 1))))) gx_F σ L1 1 0
set_option maxRecDepth 100000 in
set_option maxHeartbeats 4000000 in
theorem tl_M_areAll {D : va_G} {ob : Nat → Nat} {cI cB cS cZ : ClassId} {X : gx_X} (hX : gx_K (md_V D ob cI cB cS cZ) X prog_11_method_7_code "TypeLoomModel" 4 0 0 (some .boolean)) (σ : gx_S) (L1 : Int32) : gx_G (md_V D ob cI cB cS cZ) X (km_M_areAll σ L1) σ 0 [(0, .ref (ob 0)), (1, .int L1)] [] := by
  unfold km_M_areAll
  refine gx_iconst hX 1 1 dw_M_areAll_0 (by decide) rfl ?_
  refine gx_istore_n hX [(2, .int 1), (0, .ref (ob 0)), (1, .int L1)] 2 dw_M_areAll_1 rfl (by decide) rfl rfl ?_
  refine gx_iconst hX 0 3 dw_M_areAll_2 (by decide) rfl ?_
  refine gx_istore_n hX [(3, .int 0), (2, .int 1), (0, .ref (ob 0)), (1, .int L1)] 4 dw_M_areAll_3 rfl (by decide) rfl rfl ?_
  refine gx_pick (lv' := [(0, .ref (ob 0)), (1, .int L1), (2, .int 1), (3, .int 0)]) hX [2, 3, 1, 0] rfl (gx_lpI (fun (f : gx_S → Int32 → Int32 → Int32 → gx_R) => ∀ (σ1 : gx_S) (L1 : Int32) (L2 : Int32) (L3 : Int32), gx_G (md_V D ob cI cB cS cZ) X (f σ1 L1 L2 L3) σ1 4 [(0, .ref (ob 0)), (1, .int L1), (2, .int L2), (3, .int L3)] []) (fun _ _ _ _ => gx_none) (fun again4 ih4 σ1 L1 L2 L3 => ?_) _ σ L1 1 0)
  refine gx_iload_n hX 3 5 dw_M_areAll_4 rfl rfl rfl ?_
  refine gx_aload_n hX 0 6 dw_M_areAll_5 rfl rfl rfl ?_
  refine mg_0 hX 26 9 (by decide) tw_934 rfl dw_M_areAll_6 rfl ?_
  refine gx_icmp_ge hX 46 12 dw_M_areAll_9 (by decide) rfl (fun _ => ?_) (fun _ => ?_)
  · refine gx_iload_n hX 2 47 dw_M_areAll_46 rfl rfl rfl ?_
    exact gx_retz hX dw_M_areAll_47
  · refine gx_iload_n hX 2 13 dw_M_areAll_12 rfl rfl rfl ?_
    refine gx_jnI (fun (j : gx_S → Int32 → Int32 → Int32 → gx_R) => ∀ (σ2 : gx_S) (L1 : Int32) (L3 : Int32) (S0 : Int32), gx_G (md_V D ob cI cB cS cZ) X (j σ2 L1 L3 S0) σ2 39 [(0, .ref (ob 0)), (1, .int L1), (3, .int L3)] [.int S0]) (fun σ2 L1 L3 S0 => ?_) (fun j39 h39 => ?_)
    · refine gx_istore_n hX [(2, .int S0), (0, .ref (ob 0)), (1, .int L1), (3, .int L3)] 40 dw_M_areAll_39 rfl (by decide) rfl rfl ?_
      refine gx_iincN hX (q := 3) (fun x3 => [(3, .int x3), (2, .int S0), (0, .ref (ob 0)), (1, .int L1)]) 43 dw_M_areAll_40 rfl rfl (by decide) (fun _ => rfl) rfl (fun x3 => ?_)
      refine gx_goto hX 4 dw_M_areAll_43 (by decide) ?_
      exact gx_pick (lv' := [(0, .ref (ob 0)), (1, .int L1), (2, .int S0), (3, .int x3)]) hX [2, 3, 1, 0] rfl (ih4 σ2 L1 S0 x3)
    refine gx_jnI (fun (j : gx_S → Int32 → Int32 → gx_R) => ∀ (σ4 : gx_S) (L1 : Int32) (L3 : Int32), gx_G (md_V D ob cI cB cS cZ) X (j σ4 L1 L3) σ4 38 [(0, .ref (ob 0)), (1, .int L1), (3, .int L3)] []) (fun σ4 L1 L3 => ?_) (fun j38 h38 => ?_)
    · refine gx_iconst hX 0 39 dw_M_areAll_38 (by decide) rfl ?_
      exact gx_pick (lv' := [(0, .ref (ob 0)), (1, .int L1), (3, .int L3)]) hX [0, 1, 2] rfl (h39 σ4 L1 L3 0)
    refine gx_if_eq hX 38 16 dw_M_areAll_13 (by decide) rfl (fun _ => ?_) (fun _ => ?_)
    · exact gx_pick (lv' := [(0, .ref (ob 0)), (1, .int L1), (3, .int L3)]) hX [0, 1, 3] rfl (h38 σ1 L1 L3)
    · refine gx_aload_n hX 0 17 dw_M_areAll_16 rfl rfl rfl ?_
      refine mg_0 hX 27 20 (by decide) tw_935 rfl dw_M_areAll_17 rfl ?_
      refine gx_iload_n hX 3 21 dw_M_areAll_20 rfl rfl rfl ?_
      refine gf_iald (u := md_u ob cI cB cS cZ) hX 20 21 0 22 (show 20 < 52 by decide) rfl rfl dw_M_areAll_21 rfl (fun r5 => ?_)
      refine gx_jnI (fun (j : gx_S → Int32 → Int32 → Int32 → gx_R) => ∀ (σ6 : gx_S) (L1 : Int32) (L3 : Int32) (S0 : Int32), gx_G (md_V D ob cI cB cS cZ) X (j σ6 L1 L3 S0) σ6 30 [(0, .ref (ob 0)), (1, .int L1), (3, .int L3)] [.int S0]) (fun σ6 L1 L3 S0 => ?_) (fun j30 h30 => ?_)
      · refine gx_iload_n hX 1 31 dw_M_areAll_30 rfl rfl rfl ?_
        refine gx_icmp_ne hX 38 34 dw_M_areAll_31 (by decide) rfl (fun _ => ?_) (fun _ => ?_)
        · exact gx_pick (lv' := [(0, .ref (ob 0)), (1, .int L1), (3, .int L3)]) hX [0, 1, 2] rfl (h38 σ6 L1 L3)
        · refine gx_iconst hX 1 35 dw_M_areAll_34 (by decide) rfl ?_
          refine gx_goto hX 39 dw_M_areAll_35 (by decide) ?_
          exact gx_pick (lv' := [(0, .ref (ob 0)), (1, .int L1), (3, .int L3)]) hX [0, 1, 2] rfl (h39 σ6 L1 L3 1)
      refine gx_if_lt hX 29 25 dw_M_areAll_22 (by decide) rfl (fun _ => ?_) (fun _ => ?_)
      · refine gx_iconst hX 0 30 dw_M_areAll_29 (by decide) rfl ?_
        exact gx_pick (lv' := [(0, .ref (ob 0)), (1, .int L1), (3, .int L3)]) hX [0, 1, 3] rfl (h30 σ1 L1 L3 0)
      · refine gx_iconst hX 1 26 dw_M_areAll_25 (by decide) rfl ?_
        refine gx_goto hX 30 dw_M_areAll_26 (by decide) ?_
        exact gx_pick (lv' := [(0, .ref (ob 0)), (1, .int L1), (3, .int L3)]) hX [0, 1, 3] rfl (h30 σ1 L1 L3 1)
def my_M_areAll : MethodName := ⟨"TypeLoomModel", "areAll", "(Z)Z"⟩
theorem hy_M_areAll : (my_M_areAll.cls ≠ "java/lang/invoke/MethodHandle" ∧ my_M_areAll.cls ≠ "java/lang/invoke/VarHandle") ∧ (parseMethodDescriptor my_M_areAll.desc).map (fun d => d.parameters.length) = some 1 := by decide +kernel
theorem tm_M_areAll {D : va_G} {ob : Nat → Nat} {cI cB cS cZ : ClassId} (l : Launch) (σ : gx_S) (L1 : Int32) : gx_C l (md_V D ob cI cB cS cZ) my_M_areAll prog_11_method_7_code 4 (some .boolean) 0 0 [.ref (ob 0), .int L1] σ (km_M_areAll σ L1) := gx_met (by decide) rfl (Nat.le_of_ble_eq_true rfl) rfl (fun X _ hX => tl_M_areAll hX σ L1)
theorem tr_M_areAll {D : va_G} {ob : Nat → Nat} {cI cB cS cZ : ClassId} {X : gx_X} {cc : ByteArray} {own : String} {nL fr lo : Nat} {rt : Option FieldType} {σ : gx_S} {pc : Nat} {lv : List (Nat × Value)} {st : List Value} (hX : gx_K (md_V D ob cI cB cS cZ) X cc own nL fr lo rt) {idx : Nat} {L1 : Int32} {k : gx_S → Int32 → gx_R} (n : Nat) (hlink : Cond.methodLink own idx ({ cls := "TypeLoomModel", name := "areAll", desc := "(Z)Z" } : Jvm.MethodName) ∈ gx_T) (hroom : 0 + 1 ≤ fr ∧ 8 + (4 + 11) + 0 ≤ lo) (hst : (st.map fun v => v.category).sum ≤ 8) (hd : decode cc pc = .ok (.invokevirtual idx, 3)) (hn : pc + 3 = n) (kk : ∀ σ' r, gx_G (md_V D ob cI cB cS cZ) X (k σ' r) σ' n lv (.int r :: st)) : gx_G (md_V D ob cI cB cS cZ) X (gx_bd (km_M_areAll σ L1) k) σ pc lv (.int L1 :: .ref (ob 0) :: st) :=
  gx_callI hX [.int L1] n rfl (tm_M_areAll _ σ L1) hy_M_areAll tw_1151 hlink tw_1150 tw_29 tw_79 (gf_recv 0 (show 0 < 1 by decide) rfl rfl) hroom hst hd hn rfl (fun σ' r _ => kk σ' r)
def km_M_makeRow (σ : gx_S) (L1 : Int32) (L2 : Int32) : gx_R :=
  gx_st σ 13 1100 ((σ.1 4)) (vp_nar .byte (((Int32.toInt8 L1).toInt32))) (fun σ1 =>
  gx_st σ1 14 1100 ((σ1.1 4)) (vp_nar .boolean L2) (fun σ2 =>
  gx_st σ2 16 1100 ((σ2.1 4)) (-1) (fun σ3 =>
  gx_st σ3 17 1100 ((σ3.1 4)) (-1) (fun σ4 =>
  gx_sb (gx_si σ4 4 ((((σ4.1 4)) + 1))) (fun σ5 =>
  some (σ5, (((σ5.1 4)) - 1)))))))
set_option maxRecDepth 100000 in
set_option maxHeartbeats 4000000 in
theorem tl_M_makeRow {D : va_G} {ob : Nat → Nat} {cI cB cS cZ : ClassId} {X : gx_X} (hX : gx_K (md_V D ob cI cB cS cZ) X prog_11_method_9_code "TypeLoomModel" 3 0 0 (some .int)) (σ : gx_S) (L1 : Int32) (L2 : Int32) : gx_G (md_V D ob cI cB cS cZ) X (km_M_makeRow σ L1 L2) σ 0 [(0, .ref (ob 0)), (1, .int L1), (2, .int L2)] [] := by
  unfold km_M_makeRow
  refine gx_aload_n hX 0 1 dw_M_makeRow_0 rfl rfl rfl ?_
  refine mg_0 hX 18 4 (by decide) tw_926 rfl dw_M_makeRow_1 rfl ?_
  refine gx_aload_n hX 0 5 dw_M_makeRow_4 rfl rfl rfl ?_
  refine mg_0 hX 17 8 (by decide) tw_925 rfl dw_M_makeRow_5 rfl ?_
  refine gx_iload_n hX 1 9 dw_M_makeRow_8 rfl rfl rfl ?_
  refine gx_i2b hX 10 dw_M_makeRow_9 rfl ?_
  refine gf_bast (u := md_u ob cI cB cS cZ) hX 13 14 1 11 (show 13 < 52 by decide) rfl rfl (fun _ _ _ => rfl) dw_M_makeRow_10 rfl (fun σ1 => ?_)
  refine gx_aload_n hX 0 12 dw_M_makeRow_11 rfl rfl rfl ?_
  refine mg_0 hX 19 15 (by decide) tw_927 rfl dw_M_makeRow_12 rfl ?_
  refine gx_aload_n hX 0 16 dw_M_makeRow_15 rfl rfl rfl ?_
  refine mg_0 hX 17 19 (by decide) tw_925 rfl dw_M_makeRow_16 rfl ?_
  refine gx_iload_n hX 2 20 dw_M_makeRow_19 rfl rfl rfl ?_
  refine gf_zast (u := md_u ob cI cB cS cZ) hX 14 15 3 21 (show 14 < 52 by decide) rfl rfl (fun _ _ _ => rfl) dw_M_makeRow_20 rfl (fun σ2 => ?_)
  refine gx_aload_n hX 0 22 dw_M_makeRow_21 rfl rfl rfl ?_
  refine mg_0 hX 21 25 (by decide) tw_929 rfl dw_M_makeRow_22 rfl ?_
  refine gx_aload_n hX 0 26 dw_M_makeRow_25 rfl rfl rfl ?_
  refine mg_0 hX 17 29 (by decide) tw_925 rfl dw_M_makeRow_26 rfl ?_
  refine gx_iconst hX (-1) 30 dw_M_makeRow_29 (by decide) rfl ?_
  refine gf_iast (u := md_u ob cI cB cS cZ) hX 16 17 0 31 (show 16 < 52 by decide) rfl rfl (fun _ _ _ => rfl) dw_M_makeRow_30 rfl (fun σ3 => ?_)
  refine gx_aload_n hX 0 32 dw_M_makeRow_31 rfl rfl rfl ?_
  refine mg_0 hX 22 35 (by decide) tw_930 rfl dw_M_makeRow_32 rfl ?_
  refine gx_aload_n hX 0 36 dw_M_makeRow_35 rfl rfl rfl ?_
  refine mg_0 hX 17 39 (by decide) tw_925 rfl dw_M_makeRow_36 rfl ?_
  refine gx_iconst hX (-1) 40 dw_M_makeRow_39 (by decide) rfl ?_
  refine gf_iast (u := md_u ob cI cB cS cZ) hX 17 18 0 41 (show 17 < 52 by decide) rfl rfl (fun _ _ _ => rfl) dw_M_makeRow_40 rfl (fun σ4 => ?_)
  refine gx_aload_n hX 0 42 dw_M_makeRow_41 rfl rfl rfl ?_
  refine gx_dup hX 43 dw_M_makeRow_42 rfl rfl ?_
  refine mg_0 hX 17 46 (by decide) tw_925 rfl dw_M_makeRow_43 rfl ?_
  refine gx_iconst hX 1 47 dw_M_makeRow_46 (by decide) rfl ?_
  refine gx_iadd hX 48 dw_M_makeRow_47 rfl ?_
  refine mp_4 hX 51 tw_925 dw_M_makeRow_48 rfl (fun σ5 => ?_)
  refine gx_aload_n hX 0 52 dw_M_makeRow_51 rfl rfl rfl ?_
  refine mg_0 hX 17 55 (by decide) tw_925 rfl dw_M_makeRow_52 rfl ?_
  refine gx_iconst hX 1 56 dw_M_makeRow_55 (by decide) rfl ?_
  refine gx_isub hX 57 dw_M_makeRow_56 rfl ?_
  exact gx_ret hX dw_M_makeRow_57
def my_M_makeRow : MethodName := ⟨"TypeLoomModel", "makeRow", "(IZ)I"⟩
theorem hy_M_makeRow : (my_M_makeRow.cls ≠ "java/lang/invoke/MethodHandle" ∧ my_M_makeRow.cls ≠ "java/lang/invoke/VarHandle") ∧ (parseMethodDescriptor my_M_makeRow.desc).map (fun d => d.parameters.length) = some 2 := by decide +kernel
theorem tm_M_makeRow {D : va_G} {ob : Nat → Nat} {cI cB cS cZ : ClassId} (l : Launch) (σ : gx_S) (L1 : Int32) (L2 : Int32) : gx_C l (md_V D ob cI cB cS cZ) my_M_makeRow prog_11_method_9_code 3 (some .int) 0 0 [.ref (ob 0), .int L1, .int L2] σ (km_M_makeRow σ L1 L2) := gx_met (by decide) rfl (Nat.le_of_ble_eq_true rfl) rfl (fun X _ hX => tl_M_makeRow hX σ L1 L2)
theorem tr_M_makeRow {D : va_G} {ob : Nat → Nat} {cI cB cS cZ : ClassId} {X : gx_X} {cc : ByteArray} {own : String} {nL fr lo : Nat} {rt : Option FieldType} {σ : gx_S} {pc : Nat} {lv : List (Nat × Value)} {st : List Value} (hX : gx_K (md_V D ob cI cB cS cZ) X cc own nL fr lo rt) {idx : Nat} {L1 : Int32} {L2 : Int32} {k : gx_S → Int32 → gx_R} (n : Nat) (hlink : Cond.methodLink own idx ({ cls := "TypeLoomModel", name := "makeRow", desc := "(IZ)I" } : Jvm.MethodName) ∈ gx_T) (hroom : 0 + 1 ≤ fr ∧ 8 + (3 + 11) + 0 ≤ lo) (hst : (st.map fun v => v.category).sum ≤ 8) (hd : decode cc pc = .ok (.invokevirtual idx, 3)) (hn : pc + 3 = n) (kk : ∀ σ' r, gx_G (md_V D ob cI cB cS cZ) X (k σ' r) σ' n lv (.int r :: st)) : gx_G (md_V D ob cI cB cS cZ) X (gx_bd (km_M_makeRow σ L1 L2) k) σ pc lv (.int L2 :: .int L1 :: .ref (ob 0) :: st) :=
  gx_callI hX [.int L1, .int L2] n rfl (tm_M_makeRow _ σ L1 L2) hy_M_makeRow tw_1167 hlink tw_1166 tw_32 tw_79 (gf_recv 0 (show 0 < 1 by decide) rfl rfl) hroom hst hd hn rfl (fun σ' r _ => kk σ' r)
def km_M_equalOnes (σ : gx_S) (L1 : Int32) : gx_R :=
  gx_lp (α := gx_S → Int32 → Int32 → gx_R) (fun _ _ _ => none) (fun again4 (σ1 : gx_S) (L2 : Int32) (L3 : Int32) =>
    if 31 ≤ L3 then
    some (σ1, L2)
  else
    if (σ1.1 0) ≤ L3 then
      some (σ1, L2)
    else
      gx_ld σ1 1 2048 L3 (fun r2 =>
      gx_jn (fun (σ3 : gx_S) (L3 : Int32) (S0 : Int32) =>
        gx_bv (L3 + 1) (fun x4 =>
        again4 σ3 S0 x4)) (fun j38 =>
      if r2 = 0 then
        j38 σ1 L3 ((L2 &&& ((((1 <<< (L3 &&& 31))) ^^^ (-1)))))
      else
        j38 σ1 L3 L2))) gx_F σ L1 0
set_option maxRecDepth 100000 in
set_option maxHeartbeats 4000000 in
theorem tl_M_equalOnes {D : va_G} {ob : Nat → Nat} {cI cB cS cZ : ClassId} {X : gx_X} (hX : gx_K (md_V D ob cI cB cS cZ) X prog_11_method_12_code "TypeLoomModel" 4 0 0 (some .int)) (σ : gx_S) (L1 : Int32) : gx_G (md_V D ob cI cB cS cZ) X (km_M_equalOnes σ L1) σ 0 [(0, .ref (ob 0)), (1, .int L1)] [] := by
  unfold km_M_equalOnes
  refine gx_iload_n hX 1 1 dw_M_equalOnes_0 rfl rfl rfl ?_
  refine gx_istore_n hX [(2, .int L1), (0, .ref (ob 0)), (1, .int L1)] 2 dw_M_equalOnes_1 rfl (by decide) rfl rfl ?_
  refine gx_iconst hX 0 3 dw_M_equalOnes_2 (by decide) rfl ?_
  refine gx_istore_n hX [(3, .int 0), (2, .int L1), (0, .ref (ob 0)), (1, .int L1)] 4 dw_M_equalOnes_3 rfl (by decide) rfl rfl ?_
  refine gx_pick (lv' := [(0, .ref (ob 0)), (2, .int L1), (3, .int 0)]) hX [2, 1, 0] rfl (gx_lpI (fun (f : gx_S → Int32 → Int32 → gx_R) => ∀ (σ1 : gx_S) (L2 : Int32) (L3 : Int32), gx_G (md_V D ob cI cB cS cZ) X (f σ1 L2 L3) σ1 4 [(0, .ref (ob 0)), (2, .int L2), (3, .int L3)] []) (fun _ _ _ => gx_none) (fun again4 ih4 σ1 L2 L3 => ?_) _ σ L1 0)
  refine gx_iload_n hX 2 5 dw_M_equalOnes_4 rfl rfl rfl ?_
  refine gx_bipush hX 31 7 dw_M_equalOnes_5 (by decide) rfl ?_
  refine gx_icmp_ge hX 45 10 dw_M_equalOnes_7 (by decide) rfl (fun _ => ?_) (fun _ => ?_)
  · refine gx_iload_n hX 1 46 dw_M_equalOnes_45 rfl rfl rfl ?_
    exact gx_ret hX dw_M_equalOnes_46
  · refine gx_iload_n hX 2 11 dw_M_equalOnes_10 rfl rfl rfl ?_
    refine gx_aload_n hX 0 12 dw_M_equalOnes_11 rfl rfl rfl ?_
    refine mg_0 hX 0 15 (by decide) tw_908 rfl dw_M_equalOnes_12 rfl ?_
    refine gx_icmp_ge hX 45 18 dw_M_equalOnes_15 (by decide) rfl (fun _ => ?_) (fun _ => ?_)
    · refine gx_iload_n hX 1 46 dw_M_equalOnes_45 rfl rfl rfl ?_
      exact gx_ret hX dw_M_equalOnes_46
    · refine gx_aload_n hX 0 19 dw_M_equalOnes_18 rfl rfl rfl ?_
      refine mg_0 hX 2 22 (by decide) tw_910 rfl dw_M_equalOnes_19 rfl ?_
      refine gx_iload_n hX 2 23 dw_M_equalOnes_22 rfl rfl rfl ?_
      refine gf_bald (u := md_u ob cI cB cS cZ) hX 1 2 1 24 (show 1 < 52 by decide) rfl rfl dw_M_equalOnes_23 rfl (fun r2 => ?_)
      refine gx_jnI (fun (j : gx_S → Int32 → Int32 → gx_R) => ∀ (σ3 : gx_S) (L3 : Int32) (S0 : Int32), gx_G (md_V D ob cI cB cS cZ) X (j σ3 L3 S0) σ3 38 [(0, .ref (ob 0)), (3, .int L3)] [.int S0]) (fun σ3 L3 S0 => ?_) (fun j38 h38 => ?_)
      · refine gx_istore_n hX [(2, .int S0), (0, .ref (ob 0)), (3, .int L3)] 39 dw_M_equalOnes_38 rfl (by decide) rfl rfl ?_
        refine gx_iincN hX (q := 2) (fun x4 => [(3, .int x4), (2, .int S0), (0, .ref (ob 0))]) 42 dw_M_equalOnes_39 rfl rfl (by decide) (fun _ => rfl) rfl (fun x4 => ?_)
        refine gx_goto hX 4 dw_M_equalOnes_42 (by decide) ?_
        exact gx_pick (lv' := [(0, .ref (ob 0)), (2, .int S0), (3, .int x4)]) hX [2, 1, 0] rfl (ih4 σ3 S0 x4)
      refine gx_if_ne hX 37 27 dw_M_equalOnes_24 (by decide) rfl (fun _ => ?_) (fun _ => ?_)
      · refine gx_iload_n hX 1 38 dw_M_equalOnes_37 rfl rfl rfl ?_
        exact gx_pick (lv' := [(0, .ref (ob 0)), (3, .int L3)]) hX [0, 2] rfl (h38 σ1 L3 L2)
      · refine gx_iload_n hX 1 28 dw_M_equalOnes_27 rfl rfl rfl ?_
        refine gx_iconst hX 1 29 dw_M_equalOnes_28 (by decide) rfl ?_
        refine gx_iload_n hX 2 30 dw_M_equalOnes_29 rfl rfl rfl ?_
        refine gx_ishl hX 31 dw_M_equalOnes_30 rfl ?_
        refine gx_iconst hX (-1) 32 dw_M_equalOnes_31 (by decide) rfl ?_
        refine gx_ixor hX 33 dw_M_equalOnes_32 rfl ?_
        refine gx_iand hX 34 dw_M_equalOnes_33 rfl ?_
        refine gx_goto hX 38 dw_M_equalOnes_34 (by decide) ?_
        exact gx_pick (lv' := [(0, .ref (ob 0)), (3, .int L3)]) hX [0, 2] rfl (h38 σ1 L3 ((L2 &&& ((((1 <<< (L3 &&& 31))) ^^^ (-1))))))
def my_M_equalOnes : MethodName := ⟨"TypeLoomModel", "equalOnes", "(I)I"⟩
theorem hy_M_equalOnes : (my_M_equalOnes.cls ≠ "java/lang/invoke/MethodHandle" ∧ my_M_equalOnes.cls ≠ "java/lang/invoke/VarHandle") ∧ (parseMethodDescriptor my_M_equalOnes.desc).map (fun d => d.parameters.length) = some 1 := by decide +kernel
theorem tm_M_equalOnes {D : va_G} {ob : Nat → Nat} {cI cB cS cZ : ClassId} (l : Launch) (σ : gx_S) (L1 : Int32) : gx_C l (md_V D ob cI cB cS cZ) my_M_equalOnes prog_11_method_12_code 4 (some .int) 0 0 [.ref (ob 0), .int L1] σ (km_M_equalOnes σ L1) := gx_met (by decide) rfl (Nat.le_of_ble_eq_true rfl) rfl (fun X _ hX => tl_M_equalOnes hX σ L1)
theorem tr_M_equalOnes {D : va_G} {ob : Nat → Nat} {cI cB cS cZ : ClassId} {X : gx_X} {cc : ByteArray} {own : String} {nL fr lo : Nat} {rt : Option FieldType} {σ : gx_S} {pc : Nat} {lv : List (Nat × Value)} {st : List Value} (hX : gx_K (md_V D ob cI cB cS cZ) X cc own nL fr lo rt) {idx : Nat} {L1 : Int32} {k : gx_S → Int32 → gx_R} (n : Nat) (hlink : Cond.methodLink own idx ({ cls := "TypeLoomModel", name := "equalOnes", desc := "(I)I" } : Jvm.MethodName) ∈ gx_T) (hroom : 0 + 1 ≤ fr ∧ 8 + (4 + 11) + 0 ≤ lo) (hst : (st.map fun v => v.category).sum ≤ 8) (hd : decode cc pc = .ok (.invokevirtual idx, 3)) (hn : pc + 3 = n) (kk : ∀ σ' r, gx_G (md_V D ob cI cB cS cZ) X (k σ' r) σ' n lv (.int r :: st)) : gx_G (md_V D ob cI cB cS cZ) X (gx_bd (km_M_equalOnes σ L1) k) σ pc lv (.int L1 :: .ref (ob 0) :: st) :=
  gx_callI hX [.int L1] n rfl (tm_M_equalOnes _ σ L1) hy_M_equalOnes tw_1179 hlink tw_1178 tw_33 tw_79 (gf_recv 0 (show 0 < 1 by decide) rfl rfl) hroom hst hd hn rfl (fun σ' r _ => kk σ' r)
def km_M_follow (σ : gx_S) (L1 : Int32) (L2 : Int64) : gx_R :=
  gx_bd (km_M_isType σ L1) (fun σ1 r2 =>
  if r2 = 0 then
    some (σ1, (-1))
  else
    none)
set_option maxRecDepth 100000 in
set_option maxHeartbeats 4000000 in
theorem tl_M_follow {D : va_G} {ob : Nat → Nat} {cI cB cS cZ : ClassId} {X : gx_X} (hX : gx_K (md_V D ob cI cB cS cZ) X prog_11_method_21_code "TypeLoomModel" 7 1 21 (some .int)) (σ : gx_S) (L1 : Int32) (L2 : Int64) : gx_G (md_V D ob cI cB cS cZ) X (km_M_follow σ L1 L2) σ 0 [(0, .ref (ob 0)), (1, .int L1), (2, .long L2)] [] := by
  unfold km_M_follow
  refine gx_aload_n hX 0 1 dw_M_follow_0 rfl rfl rfl ?_
  refine gx_iload_n hX 1 2 dw_M_follow_1 rfl rfl rfl ?_
  refine tr_M_isType hX 5 tw_1140 ⟨Nat.le_of_ble_eq_true rfl, Nat.le_of_ble_eq_true rfl⟩ (Nat.le_of_ble_eq_true rfl) dw_M_follow_2 rfl (fun σ1 r2 => ?_)
  refine gx_if_ne hX 10 8 dw_M_follow_5 (by decide) rfl (fun _ => ?_) (fun _ => ?_)
  · refine gx_aload_n hX 0 11 dw_M_follow_10 rfl rfl rfl ?_
    refine gx_iload_n hX 1 12 dw_M_follow_11 rfl rfl rfl ?_
    exact gx_none
  · refine gx_iconst hX (-1) 9 dw_M_follow_8 (by decide) rfl ?_
    exact gx_ret hX dw_M_follow_9
def my_M_follow : MethodName := ⟨"TypeLoomModel", "follow", "(IJ)I"⟩
theorem hy_M_follow : (my_M_follow.cls ≠ "java/lang/invoke/MethodHandle" ∧ my_M_follow.cls ≠ "java/lang/invoke/VarHandle") ∧ (parseMethodDescriptor my_M_follow.desc).map (fun d => d.parameters.length) = some 2 := by decide +kernel
theorem tm_M_follow {D : va_G} {ob : Nat → Nat} {cI cB cS cZ : ClassId} (l : Launch) (σ : gx_S) (L1 : Int32) (L2 : Int64) : gx_C l (md_V D ob cI cB cS cZ) my_M_follow prog_11_method_21_code 7 (some .int) 1 21 [.ref (ob 0), .int L1, .long L2] σ (km_M_follow σ L1 L2) := gx_met (by decide) rfl (Nat.le_of_ble_eq_true rfl) rfl (fun X _ hX => tl_M_follow hX σ L1 L2)
theorem tr_M_follow {D : va_G} {ob : Nat → Nat} {cI cB cS cZ : ClassId} {X : gx_X} {cc : ByteArray} {own : String} {nL fr lo : Nat} {rt : Option FieldType} {σ : gx_S} {pc : Nat} {lv : List (Nat × Value)} {st : List Value} (hX : gx_K (md_V D ob cI cB cS cZ) X cc own nL fr lo rt) {idx : Nat} {L1 : Int32} {L2 : Int64} {k : gx_S → Int32 → gx_R} (n : Nat) (hlink : Cond.methodLink own idx ({ cls := "TypeLoomModel", name := "follow", desc := "(IJ)I" } : Jvm.MethodName) ∈ gx_T) (hroom : 1 + 1 ≤ fr ∧ 8 + (7 + 11) + 21 ≤ lo) (hst : (st.map fun v => v.category).sum ≤ 8) (hd : decode cc pc = .ok (.invokevirtual idx, 3)) (hn : pc + 3 = n) (kk : ∀ σ' r, gx_G (md_V D ob cI cB cS cZ) X (k σ' r) σ' n lv (.int r :: st)) : gx_G (md_V D ob cI cB cS cZ) X (gx_bd (km_M_follow σ L1 L2) k) σ pc lv (.long L2 :: .int L1 :: .ref (ob 0) :: st) :=
  gx_callI hX [.int L1, .long L2] n rfl (tm_M_follow _ σ L1 L2) hy_M_follow tw_1291 hlink tw_1290 tw_57 tw_79 (gf_recv 0 (show 0 < 1 by decide) rfl rfl) hroom hst hd hn rfl (fun σ' r _ => kk σ' r)
def km_M_isScheme (σ : gx_S) (L1 : Int32) : gx_R :=
  if L1 < 0 then
    gx_rz σ 0
  else
    if (σ.1 8) ≤ L1 then
      gx_rz σ 0
    else
      gx_rz σ 1
set_option maxRecDepth 100000 in
set_option maxHeartbeats 4000000 in
theorem tl_M_isScheme {D : va_G} {ob : Nat → Nat} {cI cB cS cZ : ClassId} {X : gx_X} (hX : gx_K (md_V D ob cI cB cS cZ) X prog_11_method_54_code "TypeLoomModel" 2 0 0 (some .boolean)) (σ : gx_S) (L1 : Int32) : gx_G (md_V D ob cI cB cS cZ) X (km_M_isScheme σ L1) σ 0 [(0, .ref (ob 0)), (1, .int L1)] [] := by
  unfold km_M_isScheme
  refine gx_iload_n hX 1 1 dw_M_isScheme_0 rfl rfl rfl ?_
  refine gx_if_lt hX 16 4 dw_M_isScheme_1 (by decide) rfl (fun _ => ?_) (fun _ => ?_)
  · refine gx_iconst hX 0 17 dw_M_isScheme_16 (by decide) rfl ?_
    exact gx_retz hX dw_M_isScheme_17
  · refine gx_iload_n hX 1 5 dw_M_isScheme_4 rfl rfl rfl ?_
    refine gx_aload_n hX 0 6 dw_M_isScheme_5 rfl rfl rfl ?_
    refine mg_0 hX 30 9 (by decide) tw_938 rfl dw_M_isScheme_6 rfl ?_
    refine gx_icmp_ge hX 16 12 dw_M_isScheme_9 (by decide) rfl (fun _ => ?_) (fun _ => ?_)
    · refine gx_iconst hX 0 17 dw_M_isScheme_16 (by decide) rfl ?_
      exact gx_retz hX dw_M_isScheme_17
    · refine gx_iconst hX 1 13 dw_M_isScheme_12 (by decide) rfl ?_
      refine gx_goto hX 17 dw_M_isScheme_13 (by decide) ?_
      exact gx_retz hX dw_M_isScheme_17
def my_M_isScheme : MethodName := ⟨"TypeLoomModel", "isScheme", "(I)Z"⟩
theorem hy_M_isScheme : (my_M_isScheme.cls ≠ "java/lang/invoke/MethodHandle" ∧ my_M_isScheme.cls ≠ "java/lang/invoke/VarHandle") ∧ (parseMethodDescriptor my_M_isScheme.desc).map (fun d => d.parameters.length) = some 1 := by decide +kernel
theorem tm_M_isScheme {D : va_G} {ob : Nat → Nat} {cI cB cS cZ : ClassId} (l : Launch) (σ : gx_S) (L1 : Int32) : gx_C l (md_V D ob cI cB cS cZ) my_M_isScheme prog_11_method_54_code 2 (some .boolean) 0 0 [.ref (ob 0), .int L1] σ (km_M_isScheme σ L1) := gx_met (by decide) rfl (Nat.le_of_ble_eq_true rfl) rfl (fun X _ hX => tl_M_isScheme hX σ L1)
theorem tr_M_isScheme {D : va_G} {ob : Nat → Nat} {cI cB cS cZ : ClassId} {X : gx_X} {cc : ByteArray} {own : String} {nL fr lo : Nat} {rt : Option FieldType} {σ : gx_S} {pc : Nat} {lv : List (Nat × Value)} {st : List Value} (hX : gx_K (md_V D ob cI cB cS cZ) X cc own nL fr lo rt) {idx : Nat} {L1 : Int32} {k : gx_S → Int32 → gx_R} (n : Nat) (hlink : Cond.methodLink own idx ({ cls := "TypeLoomModel", name := "isScheme", desc := "(I)Z" } : Jvm.MethodName) ∈ gx_T) (hroom : 0 + 1 ≤ fr ∧ 8 + (2 + 11) + 0 ≤ lo) (hst : (st.map fun v => v.category).sum ≤ 8) (hd : decode cc pc = .ok (.invokevirtual idx, 3)) (hn : pc + 3 = n) (kk : ∀ σ' r, gx_G (md_V D ob cI cB cS cZ) X (k σ' r) σ' n lv (.int r :: st)) : gx_G (md_V D ob cI cB cS cZ) X (gx_bd (km_M_isScheme σ L1) k) σ pc lv (.int L1 :: .ref (ob 0) :: st) :=
  gx_callI hX [.int L1] n rfl (tm_M_isScheme _ σ L1) hy_M_isScheme tw_1348 hlink tw_1347 tw_67 tw_79 (gf_recv 0 (show 0 < 1 by decide) rfl rfl) hroom hst hd hn rfl (fun σ' r _ => kk σ' r)
def km_M_constructor (σ : gx_S) (L1 : Int32) (L2 : Int32) : gx_R :=
  if L1 < 0 then
    some (σ, (-1))
  else
    if 8 < L1 then
      some (σ, (-1))
    else
      if L2 < 0 then
        some (σ, (-1))
      else
        if L2 ≤ 2 then
          if (σ.1 0) = 2048 then
            some (σ, (-2))
          else
            gx_st σ 0 2048 ((σ.1 0)) (vp_nar .byte (((Int32.toInt8 L1).toInt32))) (fun σ1 =>
            gx_st σ1 1 2048 ((σ1.1 0)) (vp_nar .byte (((Int32.toInt8 L2).toInt32))) (fun σ2 =>
            gx_sb (gx_si σ2 0 ((((σ2.1 0)) + 1))) (fun σ3 =>
            some (σ3, (((σ3.1 0)) - 1)))))
        else
          some (σ, (-1))
set_option maxRecDepth 100000 in
set_option maxHeartbeats 4000000 in
theorem tl_M_constructor {D : va_G} {ob : Nat → Nat} {cI cB cS cZ : ClassId} {X : gx_X} (hX : gx_K (md_V D ob cI cB cS cZ) X prog_11_method_2_code "TypeLoomModel" 3 0 0 (some .int)) (σ : gx_S) (L1 : Int32) (L2 : Int32) : gx_G (md_V D ob cI cB cS cZ) X (km_M_constructor σ L1 L2) σ 0 [(0, .ref (ob 0)), (1, .int L1), (2, .int L2)] [] := by
  unfold km_M_constructor
  refine gx_iload_n hX 1 1 dw_M_constructor_0 rfl rfl rfl ?_
  refine gx_if_lt hX 19 4 dw_M_constructor_1 (by decide) rfl (fun _ => ?_) (fun _ => ?_)
  · refine gx_iconst hX (-1) 20 dw_M_constructor_19 (by decide) rfl ?_
    exact gx_ret hX dw_M_constructor_20
  · refine gx_iload_n hX 1 5 dw_M_constructor_4 rfl rfl rfl ?_
    refine gx_bipush hX 8 7 dw_M_constructor_5 (by decide) rfl ?_
    refine gx_icmp_gt hX 19 10 dw_M_constructor_7 (by decide) rfl (fun _ => ?_) (fun _ => ?_)
    · refine gx_iconst hX (-1) 20 dw_M_constructor_19 (by decide) rfl ?_
      exact gx_ret hX dw_M_constructor_20
    · refine gx_iload_n hX 2 11 dw_M_constructor_10 rfl rfl rfl ?_
      refine gx_if_lt hX 19 14 dw_M_constructor_11 (by decide) rfl (fun _ => ?_) (fun _ => ?_)
      · refine gx_iconst hX (-1) 20 dw_M_constructor_19 (by decide) rfl ?_
        exact gx_ret hX dw_M_constructor_20
      · refine gx_iload_n hX 2 15 dw_M_constructor_14 rfl rfl rfl ?_
        refine gx_iconst hX 2 16 dw_M_constructor_15 (by decide) rfl ?_
        refine gx_icmp_le hX 21 19 dw_M_constructor_16 (by decide) rfl (fun _ => ?_) (fun _ => ?_)
        · refine gx_aload_n hX 0 22 dw_M_constructor_21 rfl rfl rfl ?_
          refine mg_0 hX 0 25 (by decide) tw_908 rfl dw_M_constructor_22 rfl ?_
          refine gx_sipush hX 2048 28 dw_M_constructor_25 (by decide) rfl ?_
          refine gx_icmp_ne hX 34 31 dw_M_constructor_28 (by decide) rfl (fun _ => ?_) (fun _ => ?_)
          · refine gx_aload_n hX 0 35 dw_M_constructor_34 rfl rfl rfl ?_
            refine mg_0 hX 1 38 (by decide) tw_909 rfl dw_M_constructor_35 rfl ?_
            refine gx_aload_n hX 0 39 dw_M_constructor_38 rfl rfl rfl ?_
            refine mg_0 hX 0 42 (by decide) tw_908 rfl dw_M_constructor_39 rfl ?_
            refine gx_iload_n hX 1 43 dw_M_constructor_42 rfl rfl rfl ?_
            refine gx_i2b hX 44 dw_M_constructor_43 rfl ?_
            refine gf_bast (u := md_u ob cI cB cS cZ) hX 0 1 1 45 (show 0 < 52 by decide) rfl rfl (fun _ _ _ => rfl) dw_M_constructor_44 rfl (fun σ1 => ?_)
            refine gx_aload_n hX 0 46 dw_M_constructor_45 rfl rfl rfl ?_
            refine mg_0 hX 2 49 (by decide) tw_910 rfl dw_M_constructor_46 rfl ?_
            refine gx_aload_n hX 0 50 dw_M_constructor_49 rfl rfl rfl ?_
            refine mg_0 hX 0 53 (by decide) tw_908 rfl dw_M_constructor_50 rfl ?_
            refine gx_iload_n hX 2 54 dw_M_constructor_53 rfl rfl rfl ?_
            refine gx_i2b hX 55 dw_M_constructor_54 rfl ?_
            refine gf_bast (u := md_u ob cI cB cS cZ) hX 1 2 1 56 (show 1 < 52 by decide) rfl rfl (fun _ _ _ => rfl) dw_M_constructor_55 rfl (fun σ2 => ?_)
            refine gx_aload_n hX 0 57 dw_M_constructor_56 rfl rfl rfl ?_
            refine gx_dup hX 58 dw_M_constructor_57 rfl rfl ?_
            refine mg_0 hX 0 61 (by decide) tw_908 rfl dw_M_constructor_58 rfl ?_
            refine gx_iconst hX 1 62 dw_M_constructor_61 (by decide) rfl ?_
            refine gx_iadd hX 63 dw_M_constructor_62 rfl ?_
            refine mp_0 hX 66 tw_908 dw_M_constructor_63 rfl (fun σ3 => ?_)
            refine gx_aload_n hX 0 67 dw_M_constructor_66 rfl rfl rfl ?_
            refine mg_0 hX 0 70 (by decide) tw_908 rfl dw_M_constructor_67 rfl ?_
            refine gx_iconst hX 1 71 dw_M_constructor_70 (by decide) rfl ?_
            refine gx_isub hX 72 dw_M_constructor_71 rfl ?_
            exact gx_ret hX dw_M_constructor_72
          · refine gx_bipush hX (-2) 33 dw_M_constructor_31 (by decide) rfl ?_
            exact gx_ret hX dw_M_constructor_33
        · refine gx_iconst hX (-1) 20 dw_M_constructor_19 (by decide) rfl ?_
          exact gx_ret hX dw_M_constructor_20
def my_M_constructor : MethodName := ⟨"TypeLoomModel", "constructor", "(II)I"⟩
theorem hy_M_constructor : (my_M_constructor.cls ≠ "java/lang/invoke/MethodHandle" ∧ my_M_constructor.cls ≠ "java/lang/invoke/VarHandle") ∧ (parseMethodDescriptor my_M_constructor.desc).map (fun d => d.parameters.length) = some 2 := by decide +kernel
theorem tm_M_constructor {D : va_G} {ob : Nat → Nat} {cI cB cS cZ : ClassId} (l : Launch) (σ : gx_S) (L1 : Int32) (L2 : Int32) : gx_C l (md_V D ob cI cB cS cZ) my_M_constructor prog_11_method_2_code 3 (some .int) 0 0 [.ref (ob 0), .int L1, .int L2] σ (km_M_constructor σ L1 L2) := gx_met (by decide) rfl (Nat.le_of_ble_eq_true rfl) rfl (fun X _ hX => tl_M_constructor hX σ L1 L2)
theorem tr_M_constructor {D : va_G} {ob : Nat → Nat} {cI cB cS cZ : ClassId} {X : gx_X} {cc : ByteArray} {own : String} {nL fr lo : Nat} {rt : Option FieldType} {σ : gx_S} {pc : Nat} {lv : List (Nat × Value)} {st : List Value} (hX : gx_K (md_V D ob cI cB cS cZ) X cc own nL fr lo rt) {idx : Nat} {L1 : Int32} {L2 : Int32} {k : gx_S → Int32 → gx_R} (n : Nat) (hlink : Cond.methodLink own idx ({ cls := "TypeLoomModel", name := "constructor", desc := "(II)I" } : Jvm.MethodName) ∈ gx_T) (hroom : 0 + 1 ≤ fr ∧ 8 + (3 + 11) + 0 ≤ lo) (hst : (st.map fun v => v.category).sum ≤ 8) (hd : decode cc pc = .ok (.invokevirtual idx, 3)) (hn : pc + 3 = n) (kk : ∀ σ' r, gx_G (md_V D ob cI cB cS cZ) X (k σ' r) σ' n lv (.int r :: st)) : gx_G (md_V D ob cI cB cS cZ) X (gx_bd (km_M_constructor σ L1 L2) k) σ pc lv (.int L2 :: .int L1 :: .ref (ob 0) :: st) :=
  gx_callI hX [.int L1, .int L2] n rfl (tm_M_constructor _ σ L1 L2) hy_M_constructor tw_1134 hlink tw_1132 tw_1133 tw_79 (gf_recv 0 (show 0 < 1 by decide) rfl rfl) hroom hst hd hn rfl (fun σ' r _ => kk σ' r)
def km_M_push (σ : gx_S) (L1 : Int32) (L2 : Int32) : gx_R :=
  gx_jn (fun (σ1 : gx_S) (L1 : Int32) (L2 : Int32) (S0 : Int32) =>
    gx_jn (fun (σ2 : gx_S) (L1 : Int32) (L2 : Int32) (L3 : Int32) =>
      if L3 = 0 then
        some (σ2, (-1))
      else
        if (σ2.1 6) = 128 then
          some (σ2, (-2))
        else
          gx_st σ2 20 128 ((σ2.1 6)) L1 (fun σ3 =>
          gx_st σ3 21 128 ((σ3.1 6)) L2 (fun σ4 =>
          gx_sb (gx_si σ4 6 ((((σ4.1 6)) + 1))) (fun σ5 =>
          some (σ5, (σ5.1 6)))))) (fun j68 =>
    gx_lp (α := gx_S → Int32 → Int32 → Int32 → Int32 → gx_R) (fun _ _ _ _ _ => none) (fun again28 (σ6 : gx_S) (L1 : Int32) (L2 : Int32) (L3 : Int32) (L4 : Int32) =>
      if (σ6.1 6) ≤ L4 then
      j68 σ6 L1 L2 L3
    else
      gx_jn (fun (σ7 : gx_S) (L1 : Int32) (L2 : Int32) (L4 : Int32) (S0 : Int32) =>
        gx_bv (L4 + 1) (fun x8 =>
        again28 σ7 L1 L2 S0 x8)) (fun j61 =>
      gx_jn (fun (σ9 : gx_S) (L1 : Int32) (L2 : Int32) (L4 : Int32) =>
        j61 σ9 L1 L2 L4 0) (fun j60 =>
      if L3 = 0 then
        j60 σ6 L1 L2 L4
      else
        gx_jn (fun (σ10 : gx_S) (L1 : Int32) (L2 : Int32) (L4 : Int32) =>
          j61 σ10 L1 L2 L4 1) (fun j56 =>
        if L1 < 0 then
          j56 σ6 L1 L2 L4
        else
          gx_ld σ6 20 128 L4 (fun r11 =>
          if r11 = L1 then
            j60 σ6 L1 L2 L4
          else
            j56 σ6 L1 L2 L4))))) gx_F σ1 L1 L2 S0 0)) (fun j24 =>
  gx_jn (fun (σ12 : gx_S) (L1 : Int32) (L2 : Int32) =>
    j24 σ12 L1 L2 0) (fun j23 =>
  if L1 < (-1) then
    j23 σ L1 L2
  else
    if 32768 ≤ L1 then
      j23 σ L1 L2
    else
      gx_bd (km_M_isType σ L2) (fun σ13 r14 =>
      if r14 = 0 then
        j23 σ13 L1 L2
      else
        j24 σ13 L1 L2 1)))
set_option maxRecDepth 100000 in
set_option maxHeartbeats 4000000 in
theorem tl_M_push {D : va_G} {ob : Nat → Nat} {cI cB cS cZ : ClassId} {X : gx_X} (hX : gx_K (md_V D ob cI cB cS cZ) X prog_11_method_6_code "TypeLoomModel" 5 1 21 (some .int)) (σ : gx_S) (L1 : Int32) (L2 : Int32) : gx_G (md_V D ob cI cB cS cZ) X (km_M_push σ L1 L2) σ 0 [(0, .ref (ob 0)), (1, .int L1), (2, .int L2)] [] := by
  unfold km_M_push
  refine gx_iload_n hX 1 1 dw_M_push_0 rfl rfl rfl ?_
  refine gx_iconst hX (-1) 2 dw_M_push_1 (by decide) rfl ?_
  refine gx_jnI (fun (j : gx_S → Int32 → Int32 → Int32 → gx_R) => ∀ (σ1 : gx_S) (L1 : Int32) (L2 : Int32) (S0 : Int32), gx_G (md_V D ob cI cB cS cZ) X (j σ1 L1 L2 S0) σ1 24 [(0, .ref (ob 0)), (1, .int L1), (2, .int L2)] [.int S0]) (fun σ1 L1 L2 S0 => ?_) (fun j24 h24 => ?_)
  · refine gx_istore_n hX [(3, .int S0), (0, .ref (ob 0)), (1, .int L1), (2, .int L2)] 25 dw_M_push_24 rfl (by decide) rfl rfl ?_
    refine gx_iconst hX 0 26 dw_M_push_25 (by decide) rfl ?_
    refine gx_istore hX [(4, .int 0), (3, .int S0), (0, .ref (ob 0)), (1, .int L1), (2, .int L2)] 28 dw_M_push_26 (by decide) rfl rfl ?_
    refine gx_jnI (fun (j : gx_S → Int32 → Int32 → Int32 → gx_R) => ∀ (σ2 : gx_S) (L1 : Int32) (L2 : Int32) (L3 : Int32), gx_G (md_V D ob cI cB cS cZ) X (j σ2 L1 L2 L3) σ2 68 [(0, .ref (ob 0)), (1, .int L1), (2, .int L2), (3, .int L3)] []) (fun σ2 L1 L2 L3 => ?_) (fun j68 h68 => ?_)
    · refine gx_iload_n hX 3 69 dw_M_push_68 rfl rfl rfl ?_
      refine gx_if_ne hX 74 72 dw_M_push_69 (by decide) rfl (fun _ => ?_) (fun _ => ?_)
      · refine gx_aload_n hX 0 75 dw_M_push_74 rfl rfl rfl ?_
        refine mg_0 hX 26 78 (by decide) tw_934 rfl dw_M_push_75 rfl ?_
        refine gx_sipush hX 128 81 dw_M_push_78 (by decide) rfl ?_
        refine gx_icmp_ne hX 87 84 dw_M_push_81 (by decide) rfl (fun _ => ?_) (fun _ => ?_)
        · refine gx_aload_n hX 0 88 dw_M_push_87 rfl rfl rfl ?_
          refine mg_0 hX 27 91 (by decide) tw_935 rfl dw_M_push_88 rfl ?_
          refine gx_aload_n hX 0 92 dw_M_push_91 rfl rfl rfl ?_
          refine mg_0 hX 26 95 (by decide) tw_934 rfl dw_M_push_92 rfl ?_
          refine gx_iload_n hX 1 96 dw_M_push_95 rfl rfl rfl ?_
          refine gf_iast (u := md_u ob cI cB cS cZ) hX 20 21 0 97 (show 20 < 52 by decide) rfl rfl (fun _ _ _ => rfl) dw_M_push_96 rfl (fun σ3 => ?_)
          refine gx_aload_n hX 0 98 dw_M_push_97 rfl rfl rfl ?_
          refine mg_0 hX 28 101 (by decide) tw_936 rfl dw_M_push_98 rfl ?_
          refine gx_aload_n hX 0 102 dw_M_push_101 rfl rfl rfl ?_
          refine mg_0 hX 26 105 (by decide) tw_934 rfl dw_M_push_102 rfl ?_
          refine gx_iload_n hX 2 106 dw_M_push_105 rfl rfl rfl ?_
          refine gf_iast (u := md_u ob cI cB cS cZ) hX 21 22 0 107 (show 21 < 52 by decide) rfl rfl (fun _ _ _ => rfl) dw_M_push_106 rfl (fun σ4 => ?_)
          refine gx_aload_n hX 0 108 dw_M_push_107 rfl rfl rfl ?_
          refine gx_dup hX 109 dw_M_push_108 rfl rfl ?_
          refine mg_0 hX 26 112 (by decide) tw_934 rfl dw_M_push_109 rfl ?_
          refine gx_iconst hX 1 113 dw_M_push_112 (by decide) rfl ?_
          refine gx_iadd hX 114 dw_M_push_113 rfl ?_
          refine mp_6 hX 117 tw_934 dw_M_push_114 rfl (fun σ5 => ?_)
          refine gx_aload_n hX 0 118 dw_M_push_117 rfl rfl rfl ?_
          refine mg_0 hX 26 121 (by decide) tw_934 rfl dw_M_push_118 rfl ?_
          exact gx_ret hX dw_M_push_121
        · refine gx_bipush hX (-2) 86 dw_M_push_84 (by decide) rfl ?_
          exact gx_ret hX dw_M_push_86
      · refine gx_iconst hX (-1) 73 dw_M_push_72 (by decide) rfl ?_
        exact gx_ret hX dw_M_push_73
    refine gx_pick (lv' := [(0, .ref (ob 0)), (1, .int L1), (2, .int L2), (3, .int S0), (4, .int 0)]) hX [2, 3, 4, 1, 0] rfl (gx_lpI (fun (f : gx_S → Int32 → Int32 → Int32 → Int32 → gx_R) => ∀ (σ6 : gx_S) (L1 : Int32) (L2 : Int32) (L3 : Int32) (L4 : Int32), gx_G (md_V D ob cI cB cS cZ) X (f σ6 L1 L2 L3 L4) σ6 28 [(0, .ref (ob 0)), (1, .int L1), (2, .int L2), (3, .int L3), (4, .int L4)] []) (fun _ _ _ _ _ => gx_none) (fun again28 ih28 σ6 L1 L2 L3 L4 => ?_) _ σ1 L1 L2 S0 0)
    refine gx_iload hX 4 30 dw_M_push_28 rfl rfl ?_
    refine gx_aload_n hX 0 31 dw_M_push_30 rfl rfl rfl ?_
    refine mg_0 hX 26 34 (by decide) tw_934 rfl dw_M_push_31 rfl ?_
    refine gx_icmp_ge hX 68 37 dw_M_push_34 (by decide) rfl (fun _ => ?_) (fun _ => ?_)
    · exact gx_pick (lv' := [(0, .ref (ob 0)), (1, .int L1), (2, .int L2), (3, .int L3)]) hX [0, 1, 2, 3] rfl (h68 σ6 L1 L2 L3)
    · refine gx_iload_n hX 3 38 dw_M_push_37 rfl rfl rfl ?_
      refine gx_jnI (fun (j : gx_S → Int32 → Int32 → Int32 → Int32 → gx_R) => ∀ (σ7 : gx_S) (L1 : Int32) (L2 : Int32) (L4 : Int32) (S0 : Int32), gx_G (md_V D ob cI cB cS cZ) X (j σ7 L1 L2 L4 S0) σ7 61 [(0, .ref (ob 0)), (1, .int L1), (2, .int L2), (4, .int L4)] [.int S0]) (fun σ7 L1 L2 L4 S0 => ?_) (fun j61 h61 => ?_)
      · refine gx_istore_n hX [(3, .int S0), (0, .ref (ob 0)), (1, .int L1), (2, .int L2), (4, .int L4)] 62 dw_M_push_61 rfl (by decide) rfl rfl ?_
        refine gx_iincN hX (q := 4) (fun x8 => [(4, .int x8), (3, .int S0), (0, .ref (ob 0)), (1, .int L1), (2, .int L2)]) 65 dw_M_push_62 rfl rfl (by decide) (fun _ => rfl) rfl (fun x8 => ?_)
        refine gx_goto hX 28 dw_M_push_65 (by decide) ?_
        exact gx_pick (lv' := [(0, .ref (ob 0)), (1, .int L1), (2, .int L2), (3, .int S0), (4, .int x8)]) hX [2, 3, 4, 1, 0] rfl (ih28 σ7 L1 L2 S0 x8)
      refine gx_jnI (fun (j : gx_S → Int32 → Int32 → Int32 → gx_R) => ∀ (σ9 : gx_S) (L1 : Int32) (L2 : Int32) (L4 : Int32), gx_G (md_V D ob cI cB cS cZ) X (j σ9 L1 L2 L4) σ9 60 [(0, .ref (ob 0)), (1, .int L1), (2, .int L2), (4, .int L4)] []) (fun σ9 L1 L2 L4 => ?_) (fun j60 h60 => ?_)
      · refine gx_iconst hX 0 61 dw_M_push_60 (by decide) rfl ?_
        exact gx_pick (lv' := [(0, .ref (ob 0)), (1, .int L1), (2, .int L2), (4, .int L4)]) hX [0, 1, 2, 3] rfl (h61 σ9 L1 L2 L4 0)
      refine gx_if_eq hX 60 41 dw_M_push_38 (by decide) rfl (fun _ => ?_) (fun _ => ?_)
      · exact gx_pick (lv' := [(0, .ref (ob 0)), (1, .int L1), (2, .int L2), (4, .int L4)]) hX [0, 1, 2, 4] rfl (h60 σ6 L1 L2 L4)
      · refine gx_iload_n hX 1 42 dw_M_push_41 rfl rfl rfl ?_
        refine gx_jnI (fun (j : gx_S → Int32 → Int32 → Int32 → gx_R) => ∀ (σ10 : gx_S) (L1 : Int32) (L2 : Int32) (L4 : Int32), gx_G (md_V D ob cI cB cS cZ) X (j σ10 L1 L2 L4) σ10 56 [(0, .ref (ob 0)), (1, .int L1), (2, .int L2), (4, .int L4)] []) (fun σ10 L1 L2 L4 => ?_) (fun j56 h56 => ?_)
        · refine gx_iconst hX 1 57 dw_M_push_56 (by decide) rfl ?_
          refine gx_goto hX 61 dw_M_push_57 (by decide) ?_
          exact gx_pick (lv' := [(0, .ref (ob 0)), (1, .int L1), (2, .int L2), (4, .int L4)]) hX [0, 1, 2, 3] rfl (h61 σ10 L1 L2 L4 1)
        refine gx_if_lt hX 56 45 dw_M_push_42 (by decide) rfl (fun _ => ?_) (fun _ => ?_)
        · exact gx_pick (lv' := [(0, .ref (ob 0)), (1, .int L1), (2, .int L2), (4, .int L4)]) hX [0, 1, 2, 4] rfl (h56 σ6 L1 L2 L4)
        · refine gx_aload_n hX 0 46 dw_M_push_45 rfl rfl rfl ?_
          refine mg_0 hX 27 49 (by decide) tw_935 rfl dw_M_push_46 rfl ?_
          refine gx_iload hX 4 51 dw_M_push_49 rfl rfl ?_
          refine gf_iald (u := md_u ob cI cB cS cZ) hX 20 21 0 52 (show 20 < 52 by decide) rfl rfl dw_M_push_51 rfl (fun r11 => ?_)
          refine gx_iload_n hX 1 53 dw_M_push_52 rfl rfl rfl ?_
          refine gx_icmp_eq hX 60 56 dw_M_push_53 (by decide) rfl (fun _ => ?_) (fun _ => ?_)
          · exact gx_pick (lv' := [(0, .ref (ob 0)), (1, .int L1), (2, .int L2), (4, .int L4)]) hX [0, 1, 2, 4] rfl (h60 σ6 L1 L2 L4)
          · exact gx_pick (lv' := [(0, .ref (ob 0)), (1, .int L1), (2, .int L2), (4, .int L4)]) hX [0, 1, 2, 4] rfl (h56 σ6 L1 L2 L4)
  refine gx_jnI (fun (j : gx_S → Int32 → Int32 → gx_R) => ∀ (σ12 : gx_S) (L1 : Int32) (L2 : Int32), gx_G (md_V D ob cI cB cS cZ) X (j σ12 L1 L2) σ12 23 [(0, .ref (ob 0)), (1, .int L1), (2, .int L2)] []) (fun σ12 L1 L2 => ?_) (fun j23 h23 => ?_)
  · refine gx_iconst hX 0 24 dw_M_push_23 (by decide) rfl ?_
    exact gx_pick (lv' := [(0, .ref (ob 0)), (1, .int L1), (2, .int L2)]) hX [0, 1, 2] rfl (h24 σ12 L1 L2 0)
  refine gx_icmp_lt hX 23 5 dw_M_push_2 (by decide) rfl (fun _ => ?_) (fun _ => ?_)
  · exact gx_pick (lv' := [(0, .ref (ob 0)), (1, .int L1), (2, .int L2)]) hX [0, 1, 2] rfl (h23 σ L1 L2)
  · refine gx_iload_n hX 1 6 dw_M_push_5 rfl rfl rfl ?_
    refine gx_ldc hX 32768 8 dw_M_push_6 tw_1139 rfl ?_
    refine gx_icmp_ge hX 23 11 dw_M_push_8 (by decide) rfl (fun _ => ?_) (fun _ => ?_)
    · exact gx_pick (lv' := [(0, .ref (ob 0)), (1, .int L1), (2, .int L2)]) hX [0, 1, 2] rfl (h23 σ L1 L2)
    · refine gx_aload_n hX 0 12 dw_M_push_11 rfl rfl rfl ?_
      refine gx_iload_n hX 2 13 dw_M_push_12 rfl rfl rfl ?_
      refine tr_M_isType hX 16 tw_1140 ⟨Nat.le_of_ble_eq_true rfl, Nat.le_of_ble_eq_true rfl⟩ (Nat.le_of_ble_eq_true rfl) dw_M_push_13 rfl (fun σ13 r14 => ?_)
      refine gx_if_eq hX 23 19 dw_M_push_16 (by decide) rfl (fun _ => ?_) (fun _ => ?_)
      · exact gx_pick (lv' := [(0, .ref (ob 0)), (1, .int L1), (2, .int L2)]) hX [0, 1, 2] rfl (h23 σ13 L1 L2)
      · refine gx_iconst hX 1 20 dw_M_push_19 (by decide) rfl ?_
        refine gx_goto hX 24 dw_M_push_20 (by decide) ?_
        exact gx_pick (lv' := [(0, .ref (ob 0)), (1, .int L1), (2, .int L2)]) hX [0, 1, 2] rfl (h24 σ13 L1 L2 1)
def my_M_push : MethodName := ⟨"TypeLoomModel", "push", "(II)I"⟩
theorem hy_M_push : (my_M_push.cls ≠ "java/lang/invoke/MethodHandle" ∧ my_M_push.cls ≠ "java/lang/invoke/VarHandle") ∧ (parseMethodDescriptor my_M_push.desc).map (fun d => d.parameters.length) = some 2 := by decide +kernel
theorem tm_M_push {D : va_G} {ob : Nat → Nat} {cI cB cS cZ : ClassId} (l : Launch) (σ : gx_S) (L1 : Int32) (L2 : Int32) : gx_C l (md_V D ob cI cB cS cZ) my_M_push prog_11_method_6_code 5 (some .int) 1 21 [.ref (ob 0), .int L1, .int L2] σ (km_M_push σ L1 L2) := gx_met (by decide) rfl (Nat.le_of_ble_eq_true rfl) rfl (fun X _ hX => tl_M_push hX σ L1 L2)
theorem tr_M_push {D : va_G} {ob : Nat → Nat} {cI cB cS cZ : ClassId} {X : gx_X} {cc : ByteArray} {own : String} {nL fr lo : Nat} {rt : Option FieldType} {σ : gx_S} {pc : Nat} {lv : List (Nat × Value)} {st : List Value} (hX : gx_K (md_V D ob cI cB cS cZ) X cc own nL fr lo rt) {idx : Nat} {L1 : Int32} {L2 : Int32} {k : gx_S → Int32 → gx_R} (n : Nat) (hlink : Cond.methodLink own idx ({ cls := "TypeLoomModel", name := "push", desc := "(II)I" } : Jvm.MethodName) ∈ gx_T) (hroom : 1 + 1 ≤ fr ∧ 8 + (5 + 11) + 21 ≤ lo) (hst : (st.map fun v => v.category).sum ≤ 8) (hd : decode cc pc = .ok (.invokevirtual idx, 3)) (hn : pc + 3 = n) (kk : ∀ σ' r, gx_G (md_V D ob cI cB cS cZ) X (k σ' r) σ' n lv (.int r :: st)) : gx_G (md_V D ob cI cB cS cZ) X (gx_bd (km_M_push σ L1 L2) k) σ pc lv (.int L2 :: .int L1 :: .ref (ob 0) :: st) :=
  gx_callI hX [.int L1, .int L2] n rfl (tm_M_push _ σ L1 L2) hy_M_push tw_1138 hlink tw_1136 tw_1137 tw_79 (gf_recv 0 (show 0 < 1 by decide) rfl rfl) hroom hst hd hn rfl (fun σ' r _ => kk σ' r)
def km_M_built (σ : gx_S) (L1 : Int32) : gx_R :=
  if L1 < 0 then
    some (σ, (-1))
  else
    if (σ.1 0) ≤ L1 then
      some (σ, (-1))
    else
      gx_bd (km_M_areAll σ 0) (fun σ1 r2 =>
      if r2 = 0 then
        some (σ1, (-1))
      else
        gx_ld σ1 0 2048 L1 (fun r3 =>
        if (σ1.1 6) = r3 then
          if (σ1.1 1) = 24576 then
            some (σ1, (-2))
          else
            if (((σ1.1 2)) + ((σ1.1 6))) ≤ 65536 then
              gx_bd (km_M_make σ1 2 L1) (fun σ4 r5 =>
              gx_jn (fun (σ6 : gx_S) (L2 : Int32) =>
                gx_sb (gx_si σ6 6 0) (fun σ7 =>
                some (σ7, L2))) (fun j97 =>
              gx_lp (α := gx_S → Int32 → Int32 → gx_R) (fun _ _ _ => none) (fun again71 (σ8 : gx_S) (L2 : Int32) (L3 : Int32) =>
                if (σ8.1 6) ≤ L3 then
                j97 σ8 L2
              else
                gx_ld σ8 21 128 L3 (fun r9 =>
                gx_bd (km_M_addPart σ8 L2 0 r9) (fun σ10 _ =>
                gx_bv (L3 + 1) (fun x12 =>
                again71 σ10 L2 x12)))) gx_F σ4 r5 0))
            else
              some (σ1, (-2))
        else
          some (σ1, (-1))))
set_option maxRecDepth 100000 in
set_option maxHeartbeats 4000000 in
theorem tl_M_built {D : va_G} {ob : Nat → Nat} {cI cB cS cZ : ClassId} {X : gx_X} (hX : gx_K (md_V D ob cI cB cS cZ) X prog_11_method_8_code "TypeLoomModel" 4 1 23 (some .int)) (σ : gx_S) (L1 : Int32) : gx_G (md_V D ob cI cB cS cZ) X (km_M_built σ L1) σ 0 [(0, .ref (ob 0)), (1, .int L1)] [] := by
  unfold km_M_built
  refine gx_iload_n hX 1 1 dw_M_built_0 rfl rfl rfl ?_
  refine gx_if_lt hX 33 4 dw_M_built_1 (by decide) rfl (fun _ => ?_) (fun _ => ?_)
  · refine gx_iconst hX (-1) 34 dw_M_built_33 (by decide) rfl ?_
    exact gx_ret hX dw_M_built_34
  · refine gx_iload_n hX 1 5 dw_M_built_4 rfl rfl rfl ?_
    refine gx_aload_n hX 0 6 dw_M_built_5 rfl rfl rfl ?_
    refine mg_0 hX 0 9 (by decide) tw_908 rfl dw_M_built_6 rfl ?_
    refine gx_icmp_ge hX 33 12 dw_M_built_9 (by decide) rfl (fun _ => ?_) (fun _ => ?_)
    · refine gx_iconst hX (-1) 34 dw_M_built_33 (by decide) rfl ?_
      exact gx_ret hX dw_M_built_34
    · refine gx_aload_n hX 0 13 dw_M_built_12 rfl rfl rfl ?_
      refine gx_iconst hX 0 14 dw_M_built_13 (by decide) rfl ?_
      refine tr_M_areAll hX 17 tw_1148 ⟨Nat.le_of_ble_eq_true rfl, Nat.le_of_ble_eq_true rfl⟩ (Nat.le_of_ble_eq_true rfl) dw_M_built_14 rfl (fun σ1 r2 => ?_)
      refine gx_if_eq hX 33 20 dw_M_built_17 (by decide) rfl (fun _ => ?_) (fun _ => ?_)
      · refine gx_iconst hX (-1) 34 dw_M_built_33 (by decide) rfl ?_
        exact gx_ret hX dw_M_built_34
      · refine gx_aload_n hX 0 21 dw_M_built_20 rfl rfl rfl ?_
        refine mg_0 hX 26 24 (by decide) tw_934 rfl dw_M_built_21 rfl ?_
        refine gx_aload_n hX 0 25 dw_M_built_24 rfl rfl rfl ?_
        refine mg_0 hX 1 28 (by decide) tw_909 rfl dw_M_built_25 rfl ?_
        refine gx_iload_n hX 1 29 dw_M_built_28 rfl rfl rfl ?_
        refine gf_bald (u := md_u ob cI cB cS cZ) hX 0 1 1 30 (show 0 < 52 by decide) rfl rfl dw_M_built_29 rfl (fun r3 => ?_)
        refine gx_icmp_eq hX 35 33 dw_M_built_30 (by decide) rfl (fun _ => ?_) (fun _ => ?_)
        · refine gx_aload_n hX 0 36 dw_M_built_35 rfl rfl rfl ?_
          refine mg_0 hX 3 39 (by decide) tw_911 rfl dw_M_built_36 rfl ?_
          refine gx_sipush hX 24576 42 dw_M_built_39 (by decide) rfl ?_
          refine gx_icmp_eq hX 59 45 dw_M_built_42 (by decide) rfl (fun _ => ?_) (fun _ => ?_)
          · refine gx_bipush hX (-2) 61 dw_M_built_59 (by decide) rfl ?_
            exact gx_ret hX dw_M_built_61
          · refine gx_aload_n hX 0 46 dw_M_built_45 rfl rfl rfl ?_
            refine mg_0 hX 13 49 (by decide) tw_921 rfl dw_M_built_46 rfl ?_
            refine gx_aload_n hX 0 50 dw_M_built_49 rfl rfl rfl ?_
            refine mg_0 hX 26 53 (by decide) tw_934 rfl dw_M_built_50 rfl ?_
            refine gx_iadd hX 54 dw_M_built_53 rfl ?_
            refine gx_ldc hX 65536 56 dw_M_built_54 tw_904 rfl ?_
            refine gx_icmp_le hX 62 59 dw_M_built_56 (by decide) rfl (fun _ => ?_) (fun _ => ?_)
            · refine gx_aload_n hX 0 63 dw_M_built_62 rfl rfl rfl ?_
              refine gx_iconst hX 2 64 dw_M_built_63 (by decide) rfl ?_
              refine gx_iload_n hX 1 65 dw_M_built_64 rfl rfl rfl ?_
              refine tr_M_make hX 68 tw_1152 ⟨Nat.le_of_ble_eq_true rfl, Nat.le_of_ble_eq_true rfl⟩ (Nat.le_of_ble_eq_true rfl) dw_M_built_65 rfl (fun σ4 r5 => ?_)
              refine gx_istore_n hX [(2, .int r5), (0, .ref (ob 0)), (1, .int L1)] 69 dw_M_built_68 rfl (by decide) rfl rfl ?_
              refine gx_iconst hX 0 70 dw_M_built_69 (by decide) rfl ?_
              refine gx_istore_n hX [(3, .int 0), (2, .int r5), (0, .ref (ob 0)), (1, .int L1)] 71 dw_M_built_70 rfl (by decide) rfl rfl ?_
              refine gx_jnI (fun (j : gx_S → Int32 → gx_R) => ∀ (σ6 : gx_S) (L2 : Int32), gx_G (md_V D ob cI cB cS cZ) X (j σ6 L2) σ6 97 [(0, .ref (ob 0)), (2, .int L2)] []) (fun σ6 L2 => ?_) (fun j97 h97 => ?_)
              · refine gx_aload_n hX 0 98 dw_M_built_97 rfl rfl rfl ?_
                refine gx_iconst hX 0 99 dw_M_built_98 (by decide) rfl ?_
                refine mp_6 hX 102 tw_934 dw_M_built_99 rfl (fun σ7 => ?_)
                refine gx_iload_n hX 1 103 dw_M_built_102 rfl rfl rfl ?_
                exact gx_ret hX dw_M_built_103
              refine gx_pick (lv' := [(0, .ref (ob 0)), (2, .int r5), (3, .int 0)]) hX [2, 1, 0] rfl (gx_lpI (fun (f : gx_S → Int32 → Int32 → gx_R) => ∀ (σ8 : gx_S) (L2 : Int32) (L3 : Int32), gx_G (md_V D ob cI cB cS cZ) X (f σ8 L2 L3) σ8 71 [(0, .ref (ob 0)), (2, .int L2), (3, .int L3)] []) (fun _ _ _ => gx_none) (fun again71 ih71 σ8 L2 L3 => ?_) _ σ4 r5 0)
              refine gx_iload_n hX 2 72 dw_M_built_71 rfl rfl rfl ?_
              refine gx_aload_n hX 0 73 dw_M_built_72 rfl rfl rfl ?_
              refine mg_0 hX 26 76 (by decide) tw_934 rfl dw_M_built_73 rfl ?_
              refine gx_icmp_ge hX 97 79 dw_M_built_76 (by decide) rfl (fun _ => ?_) (fun _ => ?_)
              · exact gx_pick (lv' := [(0, .ref (ob 0)), (2, .int L2)]) hX [0, 1] rfl (h97 σ8 L2)
              · refine gx_aload_n hX 0 80 dw_M_built_79 rfl rfl rfl ?_
                refine gx_iload_n hX 1 81 dw_M_built_80 rfl rfl rfl ?_
                refine gx_iconst hX 0 82 dw_M_built_81 (by decide) rfl ?_
                refine gx_aload_n hX 0 83 dw_M_built_82 rfl rfl rfl ?_
                refine mg_0 hX 28 86 (by decide) tw_936 rfl dw_M_built_83 rfl ?_
                refine gx_iload_n hX 2 87 dw_M_built_86 rfl rfl rfl ?_
                refine gf_iald (u := md_u ob cI cB cS cZ) hX 21 22 0 88 (show 21 < 52 by decide) rfl rfl dw_M_built_87 rfl (fun r9 => ?_)
                refine tr_M_addPart hX 91 tw_1156 ⟨Nat.le_of_ble_eq_true rfl, Nat.le_of_ble_eq_true rfl⟩ (Nat.le_of_ble_eq_true rfl) dw_M_built_88 rfl (fun σ10 _ => ?_)
                refine gx_iincN hX (q := 2) (fun x12 => [(3, .int x12), (0, .ref (ob 0)), (2, .int L2)]) 94 dw_M_built_91 rfl rfl (by decide) (fun _ => rfl) rfl (fun x12 => ?_)
                refine gx_goto hX 71 dw_M_built_94 (by decide) ?_
                exact gx_pick (lv' := [(0, .ref (ob 0)), (2, .int L2), (3, .int x12)]) hX [1, 2, 0] rfl (ih71 σ10 L2 x12)
            · refine gx_bipush hX (-2) 61 dw_M_built_59 (by decide) rfl ?_
              exact gx_ret hX dw_M_built_61
        · refine gx_iconst hX (-1) 34 dw_M_built_33 (by decide) rfl ?_
          exact gx_ret hX dw_M_built_34
def my_M_built : MethodName := ⟨"TypeLoomModel", "built", "(I)I"⟩
theorem hy_M_built : (my_M_built.cls ≠ "java/lang/invoke/MethodHandle" ∧ my_M_built.cls ≠ "java/lang/invoke/VarHandle") ∧ (parseMethodDescriptor my_M_built.desc).map (fun d => d.parameters.length) = some 1 := by decide +kernel
theorem tm_M_built {D : va_G} {ob : Nat → Nat} {cI cB cS cZ : ClassId} (l : Launch) (σ : gx_S) (L1 : Int32) : gx_C l (md_V D ob cI cB cS cZ) my_M_built prog_11_method_8_code 4 (some .int) 1 23 [.ref (ob 0), .int L1] σ (km_M_built σ L1) := gx_met (by decide) rfl (Nat.le_of_ble_eq_true rfl) rfl (fun X _ hX => tl_M_built hX σ L1)
theorem tr_M_built {D : va_G} {ob : Nat → Nat} {cI cB cS cZ : ClassId} {X : gx_X} {cc : ByteArray} {own : String} {nL fr lo : Nat} {rt : Option FieldType} {σ : gx_S} {pc : Nat} {lv : List (Nat × Value)} {st : List Value} (hX : gx_K (md_V D ob cI cB cS cZ) X cc own nL fr lo rt) {idx : Nat} {L1 : Int32} {k : gx_S → Int32 → gx_R} (n : Nat) (hlink : Cond.methodLink own idx ({ cls := "TypeLoomModel", name := "built", desc := "(I)I" } : Jvm.MethodName) ∈ gx_T) (hroom : 1 + 1 ≤ fr ∧ 8 + (4 + 11) + 23 ≤ lo) (hst : (st.map fun v => v.category).sum ≤ 8) (hd : decode cc pc = .ok (.invokevirtual idx, 3)) (hn : pc + 3 = n) (kk : ∀ σ' r, gx_G (md_V D ob cI cB cS cZ) X (k σ' r) σ' n lv (.int r :: st)) : gx_G (md_V D ob cI cB cS cZ) X (gx_bd (km_M_built σ L1) k) σ pc lv (.int L1 :: .ref (ob 0) :: st) :=
  gx_callI hX [.int L1] n rfl (tm_M_built _ σ L1) hy_M_built tw_1147 hlink tw_1145 tw_1146 tw_79 (gf_recv 0 (show 0 < 1 by decide) rfl rfl) hroom hst hd hn rfl (fun σ' r _ => kk σ' r)
def km_M_record (σ : gx_S) (L1 : Int32) : gx_R :=
  gx_bd (km_M_areAll σ 1) (fun σ1 r2 =>
  if r2 = 0 then
    some (σ1, (-1))
  else
    if (σ1.1 1) = 24576 then
      some (σ1, (-2))
    else
      if 65536 < (((σ1.1 2)) + ((σ1.1 6))) then
        some (σ1, (-2))
      else
        gx_jn (fun (σ3 : gx_S) (L1 : Int32) =>
          gx_bd (km_M_make σ3 4 0) (fun σ4 r5 =>
          gx_jn (fun (σ6 : gx_S) (L1 : Int32) (L2 : Int32) =>
            gx_jn (fun (σ7 : gx_S) (L2 : Int32) =>
              gx_sb (gx_si σ7 6 0) (fun σ8 =>
              some (σ8, L2))) (fun j120 =>
            if L1 = 0 then
              j120 σ6 L2
            else
              gx_bd (km_M_makeRow σ6 ((σ6.1 7)) 0) (fun σ9 r10 =>
              gx_st σ9 6 24576 L2 r10 (fun σ11 =>
              gx_sb (gx_si σ11 3 ((((σ11.1 3)) + 1))) (fun σ12 =>
              j120 σ12 L2))))) (fun j91 =>
          gx_lp (α := gx_S → Int32 → Int32 → Int32 → gx_R) (fun _ _ _ _ => none) (fun again60 (σ13 : gx_S) (L1 : Int32) (L2 : Int32) (L3 : Int32) =>
            if (σ13.1 6) ≤ L3 then
            j91 σ13 L1 L2
          else
            gx_ld σ13 20 128 L3 (fun r14 =>
            gx_ld σ13 21 128 L3 (fun r15 =>
            gx_bd (km_M_addPart σ13 L2 r14 r15) (fun σ16 _ =>
            gx_bv (L3 + 1) (fun x18 =>
            again60 σ16 L1 L2 x18))))) gx_F σ4 L1 r5 0))) (fun j51 =>
        if L1 = 0 then
          j51 σ1 L1
        else
          if (σ1.1 3) = 512 then
            some (σ1, (-2))
          else
            j51 σ1 L1))
set_option maxRecDepth 100000 in
set_option maxHeartbeats 4000000 in
theorem tl_M_record {D : va_G} {ob : Nat → Nat} {cI cB cS cZ : ClassId} {X : gx_X} (hX : gx_K (md_V D ob cI cB cS cZ) X prog_11_method_10_code "TypeLoomModel" 4 1 23 (some .int)) (σ : gx_S) (L1 : Int32) : gx_G (md_V D ob cI cB cS cZ) X (km_M_record σ L1) σ 0 [(0, .ref (ob 0)), (1, .int L1)] [] := by
  unfold km_M_record
  refine gx_aload_n hX 0 1 dw_M_record_0 rfl rfl rfl ?_
  refine gx_iconst hX 1 2 dw_M_record_1 (by decide) rfl ?_
  refine tr_M_areAll hX 5 tw_1148 ⟨Nat.le_of_ble_eq_true rfl, Nat.le_of_ble_eq_true rfl⟩ (Nat.le_of_ble_eq_true rfl) dw_M_record_2 rfl (fun σ1 r2 => ?_)
  refine gx_if_ne hX 10 8 dw_M_record_5 (by decide) rfl (fun _ => ?_) (fun _ => ?_)
  · refine gx_aload_n hX 0 11 dw_M_record_10 rfl rfl rfl ?_
    refine mg_0 hX 3 14 (by decide) tw_911 rfl dw_M_record_11 rfl ?_
    refine gx_sipush hX 24576 17 dw_M_record_14 (by decide) rfl ?_
    refine gx_icmp_eq hX 48 20 dw_M_record_17 (by decide) rfl (fun _ => ?_) (fun _ => ?_)
    · refine gx_bipush hX (-2) 50 dw_M_record_48 (by decide) rfl ?_
      exact gx_ret hX dw_M_record_50
    · refine gx_aload_n hX 0 21 dw_M_record_20 rfl rfl rfl ?_
      refine mg_0 hX 13 24 (by decide) tw_921 rfl dw_M_record_21 rfl ?_
      refine gx_aload_n hX 0 25 dw_M_record_24 rfl rfl rfl ?_
      refine mg_0 hX 26 28 (by decide) tw_934 rfl dw_M_record_25 rfl ?_
      refine gx_iadd hX 29 dw_M_record_28 rfl ?_
      refine gx_ldc hX 65536 31 dw_M_record_29 tw_904 rfl ?_
      refine gx_icmp_gt hX 48 34 dw_M_record_31 (by decide) rfl (fun _ => ?_) (fun _ => ?_)
      · refine gx_bipush hX (-2) 50 dw_M_record_48 (by decide) rfl ?_
        exact gx_ret hX dw_M_record_50
      · refine gx_iload_n hX 1 35 dw_M_record_34 rfl rfl rfl ?_
        refine gx_jnI (fun (j : gx_S → Int32 → gx_R) => ∀ (σ3 : gx_S) (L1 : Int32), gx_G (md_V D ob cI cB cS cZ) X (j σ3 L1) σ3 51 [(0, .ref (ob 0)), (1, .int L1)] []) (fun σ3 L1 => ?_) (fun j51 h51 => ?_)
        · refine gx_aload_n hX 0 52 dw_M_record_51 rfl rfl rfl ?_
          refine gx_iconst hX 4 53 dw_M_record_52 (by decide) rfl ?_
          refine gx_iconst hX 0 54 dw_M_record_53 (by decide) rfl ?_
          refine tr_M_make hX 57 tw_1152 ⟨Nat.le_of_ble_eq_true rfl, Nat.le_of_ble_eq_true rfl⟩ (Nat.le_of_ble_eq_true rfl) dw_M_record_54 rfl (fun σ4 r5 => ?_)
          refine gx_istore_n hX [(2, .int r5), (0, .ref (ob 0)), (1, .int L1)] 58 dw_M_record_57 rfl (by decide) rfl rfl ?_
          refine gx_iconst hX 0 59 dw_M_record_58 (by decide) rfl ?_
          refine gx_istore_n hX [(3, .int 0), (2, .int r5), (0, .ref (ob 0)), (1, .int L1)] 60 dw_M_record_59 rfl (by decide) rfl rfl ?_
          refine gx_jnI (fun (j : gx_S → Int32 → Int32 → gx_R) => ∀ (σ6 : gx_S) (L1 : Int32) (L2 : Int32), gx_G (md_V D ob cI cB cS cZ) X (j σ6 L1 L2) σ6 91 [(0, .ref (ob 0)), (1, .int L1), (2, .int L2)] []) (fun σ6 L1 L2 => ?_) (fun j91 h91 => ?_)
          · refine gx_iload_n hX 1 92 dw_M_record_91 rfl rfl rfl ?_
            refine gx_jnI (fun (j : gx_S → Int32 → gx_R) => ∀ (σ7 : gx_S) (L2 : Int32), gx_G (md_V D ob cI cB cS cZ) X (j σ7 L2) σ7 120 [(0, .ref (ob 0)), (2, .int L2)] []) (fun σ7 L2 => ?_) (fun j120 h120 => ?_)
            · refine gx_aload_n hX 0 121 dw_M_record_120 rfl rfl rfl ?_
              refine gx_iconst hX 0 122 dw_M_record_121 (by decide) rfl ?_
              refine mp_6 hX 125 tw_934 dw_M_record_122 rfl (fun σ8 => ?_)
              refine gx_iload_n hX 1 126 dw_M_record_125 rfl rfl rfl ?_
              exact gx_ret hX dw_M_record_126
            refine gx_if_eq hX 120 95 dw_M_record_92 (by decide) rfl (fun _ => ?_) (fun _ => ?_)
            · exact gx_pick (lv' := [(0, .ref (ob 0)), (2, .int L2)]) hX [0, 2] rfl (h120 σ6 L2)
            · refine gx_aload_n hX 0 96 dw_M_record_95 rfl rfl rfl ?_
              refine mg_0 hX 8 99 (by decide) tw_916 rfl dw_M_record_96 rfl ?_
              refine gx_iload_n hX 2 100 dw_M_record_99 rfl rfl rfl ?_
              refine gx_aload_n hX 0 101 dw_M_record_100 rfl rfl rfl ?_
              refine gx_aload_n hX 0 102 dw_M_record_101 rfl rfl rfl ?_
              refine mg_0 hX 29 105 (by decide) tw_937 rfl dw_M_record_102 rfl ?_
              refine gx_iconst hX 0 106 dw_M_record_105 (by decide) rfl ?_
              refine tr_M_makeRow hX 109 tw_1164 ⟨Nat.le_of_ble_eq_true rfl, Nat.le_of_ble_eq_true rfl⟩ (Nat.le_of_ble_eq_true rfl) dw_M_record_106 rfl (fun σ9 r10 => ?_)
              refine gf_iast (u := md_u ob cI cB cS cZ) hX 6 7 0 110 (show 6 < 52 by decide) rfl rfl (fun _ _ _ => rfl) dw_M_record_109 rfl (fun σ11 => ?_)
              refine gx_aload_n hX 0 111 dw_M_record_110 rfl rfl rfl ?_
              refine gx_dup hX 112 dw_M_record_111 rfl rfl ?_
              refine mg_0 hX 16 115 (by decide) tw_924 rfl dw_M_record_112 rfl ?_
              refine gx_iconst hX 1 116 dw_M_record_115 (by decide) rfl ?_
              refine gx_iadd hX 117 dw_M_record_116 rfl ?_
              refine mp_3 hX 120 tw_924 dw_M_record_117 rfl (fun σ12 => ?_)
              exact gx_pick (lv' := [(0, .ref (ob 0)), (2, .int L2)]) hX [0, 2] rfl (h120 σ12 L2)
          refine gx_pick (lv' := [(0, .ref (ob 0)), (1, .int L1), (2, .int r5), (3, .int 0)]) hX [2, 3, 1, 0] rfl (gx_lpI (fun (f : gx_S → Int32 → Int32 → Int32 → gx_R) => ∀ (σ13 : gx_S) (L1 : Int32) (L2 : Int32) (L3 : Int32), gx_G (md_V D ob cI cB cS cZ) X (f σ13 L1 L2 L3) σ13 60 [(0, .ref (ob 0)), (1, .int L1), (2, .int L2), (3, .int L3)] []) (fun _ _ _ _ => gx_none) (fun again60 ih60 σ13 L1 L2 L3 => ?_) _ σ4 L1 r5 0)
          refine gx_iload_n hX 3 61 dw_M_record_60 rfl rfl rfl ?_
          refine gx_aload_n hX 0 62 dw_M_record_61 rfl rfl rfl ?_
          refine mg_0 hX 26 65 (by decide) tw_934 rfl dw_M_record_62 rfl ?_
          refine gx_icmp_ge hX 91 68 dw_M_record_65 (by decide) rfl (fun _ => ?_) (fun _ => ?_)
          · exact gx_pick (lv' := [(0, .ref (ob 0)), (1, .int L1), (2, .int L2)]) hX [0, 1, 2] rfl (h91 σ13 L1 L2)
          · refine gx_aload_n hX 0 69 dw_M_record_68 rfl rfl rfl ?_
            refine gx_iload_n hX 2 70 dw_M_record_69 rfl rfl rfl ?_
            refine gx_aload_n hX 0 71 dw_M_record_70 rfl rfl rfl ?_
            refine mg_0 hX 27 74 (by decide) tw_935 rfl dw_M_record_71 rfl ?_
            refine gx_iload_n hX 3 75 dw_M_record_74 rfl rfl rfl ?_
            refine gf_iald (u := md_u ob cI cB cS cZ) hX 20 21 0 76 (show 20 < 52 by decide) rfl rfl dw_M_record_75 rfl (fun r14 => ?_)
            refine gx_aload_n hX 0 77 dw_M_record_76 rfl rfl rfl ?_
            refine mg_0 hX 28 80 (by decide) tw_936 rfl dw_M_record_77 rfl ?_
            refine gx_iload_n hX 3 81 dw_M_record_80 rfl rfl rfl ?_
            refine gf_iald (u := md_u ob cI cB cS cZ) hX 21 22 0 82 (show 21 < 52 by decide) rfl rfl dw_M_record_81 rfl (fun r15 => ?_)
            refine tr_M_addPart hX 85 tw_1156 ⟨Nat.le_of_ble_eq_true rfl, Nat.le_of_ble_eq_true rfl⟩ (Nat.le_of_ble_eq_true rfl) dw_M_record_82 rfl (fun σ16 _ => ?_)
            refine gx_iincN hX (q := 3) (fun x18 => [(3, .int x18), (0, .ref (ob 0)), (1, .int L1), (2, .int L2)]) 88 dw_M_record_85 rfl rfl (by decide) (fun _ => rfl) rfl (fun x18 => ?_)
            refine gx_goto hX 60 dw_M_record_88 (by decide) ?_
            exact gx_pick (lv' := [(0, .ref (ob 0)), (1, .int L1), (2, .int L2), (3, .int x18)]) hX [1, 2, 3, 0] rfl (ih60 σ16 L1 L2 x18)
        refine gx_if_eq hX 51 38 dw_M_record_35 (by decide) rfl (fun _ => ?_) (fun _ => ?_)
        · exact gx_pick (lv' := [(0, .ref (ob 0)), (1, .int L1)]) hX [0, 1] rfl (h51 σ1 L1)
        · refine gx_aload_n hX 0 39 dw_M_record_38 rfl rfl rfl ?_
          refine mg_0 hX 16 42 (by decide) tw_924 rfl dw_M_record_39 rfl ?_
          refine gx_sipush hX 512 45 dw_M_record_42 (by decide) rfl ?_
          refine gx_icmp_ne hX 51 48 dw_M_record_45 (by decide) rfl (fun _ => ?_) (fun _ => ?_)
          · exact gx_pick (lv' := [(0, .ref (ob 0)), (1, .int L1)]) hX [0, 1] rfl (h51 σ1 L1)
          · refine gx_bipush hX (-2) 50 dw_M_record_48 (by decide) rfl ?_
            exact gx_ret hX dw_M_record_50
  · refine gx_iconst hX (-1) 9 dw_M_record_8 (by decide) rfl ?_
    exact gx_ret hX dw_M_record_9
def my_M_record : MethodName := ⟨"TypeLoomModel", "record", "(Z)I"⟩
theorem hy_M_record : (my_M_record.cls ≠ "java/lang/invoke/MethodHandle" ∧ my_M_record.cls ≠ "java/lang/invoke/VarHandle") ∧ (parseMethodDescriptor my_M_record.desc).map (fun d => d.parameters.length) = some 1 := by decide +kernel
theorem tm_M_record {D : va_G} {ob : Nat → Nat} {cI cB cS cZ : ClassId} (l : Launch) (σ : gx_S) (L1 : Int32) : gx_C l (md_V D ob cI cB cS cZ) my_M_record prog_11_method_10_code 4 (some .int) 1 23 [.ref (ob 0), .int L1] σ (km_M_record σ L1) := gx_met (by decide) rfl (Nat.le_of_ble_eq_true rfl) rfl (fun X _ hX => tl_M_record hX σ L1)
theorem tr_M_record {D : va_G} {ob : Nat → Nat} {cI cB cS cZ : ClassId} {X : gx_X} {cc : ByteArray} {own : String} {nL fr lo : Nat} {rt : Option FieldType} {σ : gx_S} {pc : Nat} {lv : List (Nat × Value)} {st : List Value} (hX : gx_K (md_V D ob cI cB cS cZ) X cc own nL fr lo rt) {idx : Nat} {L1 : Int32} {k : gx_S → Int32 → gx_R} (n : Nat) (hlink : Cond.methodLink own idx ({ cls := "TypeLoomModel", name := "record", desc := "(Z)I" } : Jvm.MethodName) ∈ gx_T) (hroom : 1 + 1 ≤ fr ∧ 8 + (4 + 11) + 23 ≤ lo) (hst : (st.map fun v => v.category).sum ≤ 8) (hd : decode cc pc = .ok (.invokevirtual idx, 3)) (hn : pc + 3 = n) (kk : ∀ σ' r, gx_G (md_V D ob cI cB cS cZ) X (k σ' r) σ' n lv (.int r :: st)) : gx_G (md_V D ob cI cB cS cZ) X (gx_bd (km_M_record σ L1) k) σ pc lv (.int L1 :: .ref (ob 0) :: st) :=
  gx_callI hX [.int L1] n rfl (tm_M_record _ σ L1) hy_M_record tw_1163 hlink tw_1161 tw_1162 tw_79 (gf_recv 0 (show 0 < 1 by decide) rfl rfl) hroom hst hd hn rfl (fun σ' r _ => kk σ' r)
def km_M_function (σ : gx_S) (L1 : Int32) (L2 : Int32) : gx_R :=
  gx_bd (km_M_isType σ L1) (fun σ1 r2 =>
  if r2 = 0 then
    some (σ1, (-1))
  else
    gx_bd (km_M_isType σ1 L2) (fun σ3 r4 =>
    if r4 = 0 then
      some (σ3, (-1))
    else
      if (σ3.1 1) = 24576 then
        some (σ3, (-2))
      else
        if (((σ3.1 2)) + 2) ≤ 65536 then
          gx_bd (km_M_make σ3 3 0) (fun σ5 r6 =>
          gx_bd (km_M_addPart σ5 r6 0 L1) (fun σ7 _ =>
          gx_bd (km_M_addPart σ7 r6 0 L2) (fun σ9 _ =>
          some (σ9, r6))))
        else
          some (σ3, (-2))))
set_option maxRecDepth 100000 in
set_option maxHeartbeats 4000000 in
theorem tl_M_function {D : va_G} {ob : Nat → Nat} {cI cB cS cZ : ClassId} {X : gx_X} (hX : gx_K (md_V D ob cI cB cS cZ) X prog_11_method_11_code "TypeLoomModel" 4 1 23 (some .int)) (σ : gx_S) (L1 : Int32) (L2 : Int32) : gx_G (md_V D ob cI cB cS cZ) X (km_M_function σ L1 L2) σ 0 [(0, .ref (ob 0)), (1, .int L1), (2, .int L2)] [] := by
  unfold km_M_function
  refine gx_aload_n hX 0 1 dw_M_function_0 rfl rfl rfl ?_
  refine gx_iload_n hX 1 2 dw_M_function_1 rfl rfl rfl ?_
  refine tr_M_isType hX 5 tw_1140 ⟨Nat.le_of_ble_eq_true rfl, Nat.le_of_ble_eq_true rfl⟩ (Nat.le_of_ble_eq_true rfl) dw_M_function_2 rfl (fun σ1 r2 => ?_)
  refine gx_if_eq hX 16 8 dw_M_function_5 (by decide) rfl (fun _ => ?_) (fun _ => ?_)
  · refine gx_iconst hX (-1) 17 dw_M_function_16 (by decide) rfl ?_
    exact gx_ret hX dw_M_function_17
  · refine gx_aload_n hX 0 9 dw_M_function_8 rfl rfl rfl ?_
    refine gx_iload_n hX 2 10 dw_M_function_9 rfl rfl rfl ?_
    refine tr_M_isType hX 13 tw_1140 ⟨Nat.le_of_ble_eq_true rfl, Nat.le_of_ble_eq_true rfl⟩ (Nat.le_of_ble_eq_true rfl) dw_M_function_10 rfl (fun σ3 r4 => ?_)
    refine gx_if_ne hX 18 16 dw_M_function_13 (by decide) rfl (fun _ => ?_) (fun _ => ?_)
    · refine gx_aload_n hX 0 19 dw_M_function_18 rfl rfl rfl ?_
      refine mg_0 hX 3 22 (by decide) tw_911 rfl dw_M_function_19 rfl ?_
      refine gx_sipush hX 24576 25 dw_M_function_22 (by decide) rfl ?_
      refine gx_icmp_eq hX 39 28 dw_M_function_25 (by decide) rfl (fun _ => ?_) (fun _ => ?_)
      · refine gx_bipush hX (-2) 41 dw_M_function_39 (by decide) rfl ?_
        exact gx_ret hX dw_M_function_41
      · refine gx_aload_n hX 0 29 dw_M_function_28 rfl rfl rfl ?_
        refine mg_0 hX 13 32 (by decide) tw_921 rfl dw_M_function_29 rfl ?_
        refine gx_iconst hX 2 33 dw_M_function_32 (by decide) rfl ?_
        refine gx_iadd hX 34 dw_M_function_33 rfl ?_
        refine gx_ldc hX 65536 36 dw_M_function_34 tw_904 rfl ?_
        refine gx_icmp_le hX 42 39 dw_M_function_36 (by decide) rfl (fun _ => ?_) (fun _ => ?_)
        · refine gx_aload_n hX 0 43 dw_M_function_42 rfl rfl rfl ?_
          refine gx_iconst hX 3 44 dw_M_function_43 (by decide) rfl ?_
          refine gx_iconst hX 0 45 dw_M_function_44 (by decide) rfl ?_
          refine tr_M_make hX 48 tw_1152 ⟨Nat.le_of_ble_eq_true rfl, Nat.le_of_ble_eq_true rfl⟩ (Nat.le_of_ble_eq_true rfl) dw_M_function_45 rfl (fun σ5 r6 => ?_)
          refine gx_istore_n hX [(3, .int r6), (0, .ref (ob 0)), (1, .int L1), (2, .int L2)] 49 dw_M_function_48 rfl (by decide) rfl rfl ?_
          refine gx_aload_n hX 1 50 dw_M_function_49 rfl rfl rfl ?_
          refine gx_iload_n hX 0 51 dw_M_function_50 rfl rfl rfl ?_
          refine gx_iconst hX 0 52 dw_M_function_51 (by decide) rfl ?_
          refine gx_iload_n hX 2 53 dw_M_function_52 rfl rfl rfl ?_
          refine tr_M_addPart hX 56 tw_1156 ⟨Nat.le_of_ble_eq_true rfl, Nat.le_of_ble_eq_true rfl⟩ (Nat.le_of_ble_eq_true rfl) dw_M_function_53 rfl (fun σ7 _ => ?_)
          refine gx_aload_n hX 1 57 dw_M_function_56 rfl rfl rfl ?_
          refine gx_iload_n hX 0 58 dw_M_function_57 rfl rfl rfl ?_
          refine gx_iconst hX 0 59 dw_M_function_58 (by decide) rfl ?_
          refine gx_iload_n hX 3 60 dw_M_function_59 rfl rfl rfl ?_
          refine tr_M_addPart hX 63 tw_1156 ⟨Nat.le_of_ble_eq_true rfl, Nat.le_of_ble_eq_true rfl⟩ (Nat.le_of_ble_eq_true rfl) dw_M_function_60 rfl (fun σ9 _ => ?_)
          refine gx_iload_n hX 0 64 dw_M_function_63 rfl rfl rfl ?_
          exact gx_ret hX dw_M_function_64
        · refine gx_bipush hX (-2) 41 dw_M_function_39 (by decide) rfl ?_
          exact gx_ret hX dw_M_function_41
    · refine gx_iconst hX (-1) 17 dw_M_function_16 (by decide) rfl ?_
      exact gx_ret hX dw_M_function_17
def my_M_function : MethodName := ⟨"TypeLoomModel", "function", "(II)I"⟩
theorem hy_M_function : (my_M_function.cls ≠ "java/lang/invoke/MethodHandle" ∧ my_M_function.cls ≠ "java/lang/invoke/VarHandle") ∧ (parseMethodDescriptor my_M_function.desc).map (fun d => d.parameters.length) = some 2 := by decide +kernel
theorem tm_M_function {D : va_G} {ob : Nat → Nat} {cI cB cS cZ : ClassId} (l : Launch) (σ : gx_S) (L1 : Int32) (L2 : Int32) : gx_C l (md_V D ob cI cB cS cZ) my_M_function prog_11_method_11_code 4 (some .int) 1 23 [.ref (ob 0), .int L1, .int L2] σ (km_M_function σ L1 L2) := gx_met (by decide) rfl (Nat.le_of_ble_eq_true rfl) rfl (fun X _ hX => tl_M_function hX σ L1 L2)
theorem tr_M_function {D : va_G} {ob : Nat → Nat} {cI cB cS cZ : ClassId} {X : gx_X} {cc : ByteArray} {own : String} {nL fr lo : Nat} {rt : Option FieldType} {σ : gx_S} {pc : Nat} {lv : List (Nat × Value)} {st : List Value} (hX : gx_K (md_V D ob cI cB cS cZ) X cc own nL fr lo rt) {idx : Nat} {L1 : Int32} {L2 : Int32} {k : gx_S → Int32 → gx_R} (n : Nat) (hlink : Cond.methodLink own idx ({ cls := "TypeLoomModel", name := "function", desc := "(II)I" } : Jvm.MethodName) ∈ gx_T) (hroom : 1 + 1 ≤ fr ∧ 8 + (4 + 11) + 23 ≤ lo) (hst : (st.map fun v => v.category).sum ≤ 8) (hd : decode cc pc = .ok (.invokevirtual idx, 3)) (hn : pc + 3 = n) (kk : ∀ σ' r, gx_G (md_V D ob cI cB cS cZ) X (k σ' r) σ' n lv (.int r :: st)) : gx_G (md_V D ob cI cB cS cZ) X (gx_bd (km_M_function σ L1 L2) k) σ pc lv (.int L2 :: .int L1 :: .ref (ob 0) :: st) :=
  gx_callI hX [.int L1, .int L2] n rfl (tm_M_function _ σ L1 L2) hy_M_function tw_1171 hlink tw_1169 tw_1170 tw_79 (gf_recv 0 (show 0 < 1 by decide) rfl rfl) hroom hst hd hn rfl (fun σ' r _ => kk σ' r)
def km_M_variable (σ : gx_S) (L1 : Int32) (L2 : Int32) : gx_R :=
  gx_jn (fun (σ1 : gx_S) (L1 : Int32) (L2 : Int32) (S0 : Int32) =>
    gx_jn (fun (σ2 : gx_S) (L1 : Int32) (L2 : Int32) (L3 : Int32) =>
      if L3 = 0 then
        some (σ2, (-1))
      else
        if (σ2.1 1) = 24576 then
          some (σ2, (-2))
        else
          gx_bd (km_M_make σ2 0 0) (fun σ3 r4 =>
          gx_st σ3 8 24576 r4 (vp_nar .boolean L1) (fun σ5 =>
          gx_st σ5 9 24576 r4 L2 (fun σ6 =>
          some (σ6, r4))))) (fun j77 =>
    gx_lp (α := gx_S → Int32 → Int32 → Int32 → Int32 → gx_R) (fun _ _ _ _ _ => none) (fun again26 (σ7 : gx_S) (L1 : Int32) (L2 : Int32) (L3 : Int32) (L4 : Int32) =>
      if 31 ≤ L4 then
      j77 σ7 L1 L2 L3
    else
      gx_jn (fun (σ8 : gx_S) (L1 : Int32) (L2 : Int32) (L4 : Int32) (S0 : Int32) =>
        gx_bv (L4 + 1) (fun x9 =>
        again26 σ8 L1 L2 S0 x9)) (fun j70 =>
      gx_jn (fun (σ10 : gx_S) (L1 : Int32) (L2 : Int32) (L4 : Int32) =>
        j70 σ10 L1 L2 L4 0) (fun j69 =>
      if L3 = 0 then
        j69 σ7 L1 L2 L4
      else
        gx_jn (fun (σ11 : gx_S) (L1 : Int32) (L2 : Int32) (L4 : Int32) =>
          j70 σ11 L1 L2 L4 1) (fun j65 =>
        if (((L2 >>> (L4 &&& 31))) &&& 1) = 0 then
          j65 σ7 L1 L2 L4
        else
          if (σ7.1 0) ≤ L4 then
            j69 σ7 L1 L2 L4
          else
            gx_ld σ7 0 2048 L4 (fun r12 =>
            if r12 = 0 then
              j65 σ7 L1 L2 L4
            else
              j69 σ7 L1 L2 L4))))) gx_F σ1 L1 L2 S0 0)) (fun j22 =>
  gx_jn (fun (σ13 : gx_S) (L1 : Int32) (L2 : Int32) =>
    j22 σ13 L1 L2 0) (fun j21 =>
  if L2 < 0 then
    j21 σ L1 L2
  else
    gx_jn (fun (σ14 : gx_S) (L1 : Int32) (L2 : Int32) =>
      j22 σ14 L1 L2 1) (fun j17 =>
    if L1 = 0 then
      j17 σ L1 L2
    else
      gx_bd (km_M_equalOnes σ L2) (fun σ15 r16 =>
      if r16 = L2 then
        j17 σ15 L1 L2
      else
        j21 σ15 L1 L2))))
set_option maxRecDepth 100000 in
set_option maxHeartbeats 4000000 in
theorem tl_M_variable {D : va_G} {ob : Nat → Nat} {cI cB cS cZ : ClassId} {X : gx_X} (hX : gx_K (md_V D ob cI cB cS cZ) X prog_11_method_13_code "TypeLoomModel" 5 1 23 (some .int)) (σ : gx_S) (L1 : Int32) (L2 : Int32) : gx_G (md_V D ob cI cB cS cZ) X (km_M_variable σ L1 L2) σ 0 [(0, .ref (ob 0)), (1, .int L1), (2, .int L2)] [] := by
  unfold km_M_variable
  refine gx_iload_n hX 2 1 dw_M_variable_0 rfl rfl rfl ?_
  refine gx_jnI (fun (j : gx_S → Int32 → Int32 → Int32 → gx_R) => ∀ (σ1 : gx_S) (L1 : Int32) (L2 : Int32) (S0 : Int32), gx_G (md_V D ob cI cB cS cZ) X (j σ1 L1 L2 S0) σ1 22 [(0, .ref (ob 0)), (1, .int L1), (2, .int L2)] [.int S0]) (fun σ1 L1 L2 S0 => ?_) (fun j22 h22 => ?_)
  · refine gx_istore_n hX [(3, .int S0), (0, .ref (ob 0)), (1, .int L1), (2, .int L2)] 23 dw_M_variable_22 rfl (by decide) rfl rfl ?_
    refine gx_iconst hX 0 24 dw_M_variable_23 (by decide) rfl ?_
    refine gx_istore hX [(4, .int 0), (3, .int S0), (0, .ref (ob 0)), (1, .int L1), (2, .int L2)] 26 dw_M_variable_24 (by decide) rfl rfl ?_
    refine gx_jnI (fun (j : gx_S → Int32 → Int32 → Int32 → gx_R) => ∀ (σ2 : gx_S) (L1 : Int32) (L2 : Int32) (L3 : Int32), gx_G (md_V D ob cI cB cS cZ) X (j σ2 L1 L2 L3) σ2 77 [(0, .ref (ob 0)), (1, .int L1), (2, .int L2), (3, .int L3)] []) (fun σ2 L1 L2 L3 => ?_) (fun j77 h77 => ?_)
    · refine gx_iload_n hX 3 78 dw_M_variable_77 rfl rfl rfl ?_
      refine gx_if_ne hX 83 81 dw_M_variable_78 (by decide) rfl (fun _ => ?_) (fun _ => ?_)
      · refine gx_aload_n hX 0 84 dw_M_variable_83 rfl rfl rfl ?_
        refine mg_0 hX 3 87 (by decide) tw_911 rfl dw_M_variable_84 rfl ?_
        refine gx_sipush hX 24576 90 dw_M_variable_87 (by decide) rfl ?_
        refine gx_icmp_ne hX 96 93 dw_M_variable_90 (by decide) rfl (fun _ => ?_) (fun _ => ?_)
        · refine gx_aload_n hX 0 97 dw_M_variable_96 rfl rfl rfl ?_
          refine gx_iconst hX 0 98 dw_M_variable_97 (by decide) rfl ?_
          refine gx_iconst hX 0 99 dw_M_variable_98 (by decide) rfl ?_
          refine tr_M_make hX 102 tw_1152 ⟨Nat.le_of_ble_eq_true rfl, Nat.le_of_ble_eq_true rfl⟩ (Nat.le_of_ble_eq_true rfl) dw_M_variable_99 rfl (fun σ3 r4 => ?_)
          refine gx_istore hX [(4, .int r4), (0, .ref (ob 0)), (1, .int L1), (2, .int L2), (3, .int L3)] 104 dw_M_variable_102 (by decide) rfl rfl ?_
          refine gx_aload_n hX 1 105 dw_M_variable_104 rfl rfl rfl ?_
          refine mg_0 hX 10 108 (by decide) tw_918 rfl dw_M_variable_105 rfl ?_
          refine gx_iload hX 0 110 dw_M_variable_108 rfl rfl ?_
          refine gx_iload_n hX 2 111 dw_M_variable_110 rfl rfl rfl ?_
          refine gf_zast (u := md_u ob cI cB cS cZ) hX 8 9 3 112 (show 8 < 52 by decide) rfl rfl (fun _ _ _ => rfl) dw_M_variable_111 rfl (fun σ5 => ?_)
          refine gx_aload_n hX 1 113 dw_M_variable_112 rfl rfl rfl ?_
          refine mg_0 hX 11 116 (by decide) tw_919 rfl dw_M_variable_113 rfl ?_
          refine gx_iload hX 0 118 dw_M_variable_116 rfl rfl ?_
          refine gx_iload_n hX 3 119 dw_M_variable_118 rfl rfl rfl ?_
          refine gf_iast (u := md_u ob cI cB cS cZ) hX 9 10 0 120 (show 9 < 52 by decide) rfl rfl (fun _ _ _ => rfl) dw_M_variable_119 rfl (fun σ6 => ?_)
          refine gx_iload hX 0 122 dw_M_variable_120 rfl rfl ?_
          exact gx_ret hX dw_M_variable_122
        · refine gx_bipush hX (-2) 95 dw_M_variable_93 (by decide) rfl ?_
          exact gx_ret hX dw_M_variable_95
      · refine gx_iconst hX (-1) 82 dw_M_variable_81 (by decide) rfl ?_
        exact gx_ret hX dw_M_variable_82
    refine gx_pick (lv' := [(0, .ref (ob 0)), (1, .int L1), (2, .int L2), (3, .int S0), (4, .int 0)]) hX [2, 3, 4, 1, 0] rfl (gx_lpI (fun (f : gx_S → Int32 → Int32 → Int32 → Int32 → gx_R) => ∀ (σ7 : gx_S) (L1 : Int32) (L2 : Int32) (L3 : Int32) (L4 : Int32), gx_G (md_V D ob cI cB cS cZ) X (f σ7 L1 L2 L3 L4) σ7 26 [(0, .ref (ob 0)), (1, .int L1), (2, .int L2), (3, .int L3), (4, .int L4)] []) (fun _ _ _ _ _ => gx_none) (fun again26 ih26 σ7 L1 L2 L3 L4 => ?_) _ σ1 L1 L2 S0 0)
    refine gx_iload hX 4 28 dw_M_variable_26 rfl rfl ?_
    refine gx_bipush hX 31 30 dw_M_variable_28 (by decide) rfl ?_
    refine gx_icmp_ge hX 77 33 dw_M_variable_30 (by decide) rfl (fun _ => ?_) (fun _ => ?_)
    · exact gx_pick (lv' := [(0, .ref (ob 0)), (1, .int L1), (2, .int L2), (3, .int L3)]) hX [0, 1, 2, 3] rfl (h77 σ7 L1 L2 L3)
    · refine gx_iload_n hX 3 34 dw_M_variable_33 rfl rfl rfl ?_
      refine gx_jnI (fun (j : gx_S → Int32 → Int32 → Int32 → Int32 → gx_R) => ∀ (σ8 : gx_S) (L1 : Int32) (L2 : Int32) (L4 : Int32) (S0 : Int32), gx_G (md_V D ob cI cB cS cZ) X (j σ8 L1 L2 L4 S0) σ8 70 [(0, .ref (ob 0)), (1, .int L1), (2, .int L2), (4, .int L4)] [.int S0]) (fun σ8 L1 L2 L4 S0 => ?_) (fun j70 h70 => ?_)
      · refine gx_istore_n hX [(3, .int S0), (0, .ref (ob 0)), (1, .int L1), (2, .int L2), (4, .int L4)] 71 dw_M_variable_70 rfl (by decide) rfl rfl ?_
        refine gx_iincN hX (q := 4) (fun x9 => [(4, .int x9), (3, .int S0), (0, .ref (ob 0)), (1, .int L1), (2, .int L2)]) 74 dw_M_variable_71 rfl rfl (by decide) (fun _ => rfl) rfl (fun x9 => ?_)
        refine gx_goto hX 26 dw_M_variable_74 (by decide) ?_
        exact gx_pick (lv' := [(0, .ref (ob 0)), (1, .int L1), (2, .int L2), (3, .int S0), (4, .int x9)]) hX [2, 3, 4, 1, 0] rfl (ih26 σ8 L1 L2 S0 x9)
      refine gx_jnI (fun (j : gx_S → Int32 → Int32 → Int32 → gx_R) => ∀ (σ10 : gx_S) (L1 : Int32) (L2 : Int32) (L4 : Int32), gx_G (md_V D ob cI cB cS cZ) X (j σ10 L1 L2 L4) σ10 69 [(0, .ref (ob 0)), (1, .int L1), (2, .int L2), (4, .int L4)] []) (fun σ10 L1 L2 L4 => ?_) (fun j69 h69 => ?_)
      · refine gx_iconst hX 0 70 dw_M_variable_69 (by decide) rfl ?_
        exact gx_pick (lv' := [(0, .ref (ob 0)), (1, .int L1), (2, .int L2), (4, .int L4)]) hX [0, 1, 2, 3] rfl (h70 σ10 L1 L2 L4 0)
      refine gx_if_eq hX 69 37 dw_M_variable_34 (by decide) rfl (fun _ => ?_) (fun _ => ?_)
      · exact gx_pick (lv' := [(0, .ref (ob 0)), (1, .int L1), (2, .int L2), (4, .int L4)]) hX [0, 1, 2, 4] rfl (h69 σ7 L1 L2 L4)
      · refine gx_iload_n hX 2 38 dw_M_variable_37 rfl rfl rfl ?_
        refine gx_iload hX 4 40 dw_M_variable_38 rfl rfl ?_
        refine gx_ishr hX 41 dw_M_variable_40 rfl ?_
        refine gx_iconst hX 1 42 dw_M_variable_41 (by decide) rfl ?_
        refine gx_iand hX 43 dw_M_variable_42 rfl ?_
        refine gx_jnI (fun (j : gx_S → Int32 → Int32 → Int32 → gx_R) => ∀ (σ11 : gx_S) (L1 : Int32) (L2 : Int32) (L4 : Int32), gx_G (md_V D ob cI cB cS cZ) X (j σ11 L1 L2 L4) σ11 65 [(0, .ref (ob 0)), (1, .int L1), (2, .int L2), (4, .int L4)] []) (fun σ11 L1 L2 L4 => ?_) (fun j65 h65 => ?_)
        · refine gx_iconst hX 1 66 dw_M_variable_65 (by decide) rfl ?_
          refine gx_goto hX 70 dw_M_variable_66 (by decide) ?_
          exact gx_pick (lv' := [(0, .ref (ob 0)), (1, .int L1), (2, .int L2), (4, .int L4)]) hX [0, 1, 2, 3] rfl (h70 σ11 L1 L2 L4 1)
        refine gx_if_eq hX 65 46 dw_M_variable_43 (by decide) rfl (fun _ => ?_) (fun _ => ?_)
        · exact gx_pick (lv' := [(0, .ref (ob 0)), (1, .int L1), (2, .int L2), (4, .int L4)]) hX [0, 1, 2, 4] rfl (h65 σ7 L1 L2 L4)
        · refine gx_iload hX 4 48 dw_M_variable_46 rfl rfl ?_
          refine gx_aload_n hX 0 49 dw_M_variable_48 rfl rfl rfl ?_
          refine mg_0 hX 0 52 (by decide) tw_908 rfl dw_M_variable_49 rfl ?_
          refine gx_icmp_ge hX 69 55 dw_M_variable_52 (by decide) rfl (fun _ => ?_) (fun _ => ?_)
          · exact gx_pick (lv' := [(0, .ref (ob 0)), (1, .int L1), (2, .int L2), (4, .int L4)]) hX [0, 1, 2, 4] rfl (h69 σ7 L1 L2 L4)
          · refine gx_aload_n hX 0 56 dw_M_variable_55 rfl rfl rfl ?_
            refine mg_0 hX 1 59 (by decide) tw_909 rfl dw_M_variable_56 rfl ?_
            refine gx_iload hX 4 61 dw_M_variable_59 rfl rfl ?_
            refine gf_bald (u := md_u ob cI cB cS cZ) hX 0 1 1 62 (show 0 < 52 by decide) rfl rfl dw_M_variable_61 rfl (fun r12 => ?_)
            refine gx_if_ne hX 69 65 dw_M_variable_62 (by decide) rfl (fun _ => ?_) (fun _ => ?_)
            · exact gx_pick (lv' := [(0, .ref (ob 0)), (1, .int L1), (2, .int L2), (4, .int L4)]) hX [0, 1, 2, 4] rfl (h69 σ7 L1 L2 L4)
            · exact gx_pick (lv' := [(0, .ref (ob 0)), (1, .int L1), (2, .int L2), (4, .int L4)]) hX [0, 1, 2, 4] rfl (h65 σ7 L1 L2 L4)
  refine gx_jnI (fun (j : gx_S → Int32 → Int32 → gx_R) => ∀ (σ13 : gx_S) (L1 : Int32) (L2 : Int32), gx_G (md_V D ob cI cB cS cZ) X (j σ13 L1 L2) σ13 21 [(0, .ref (ob 0)), (1, .int L1), (2, .int L2)] []) (fun σ13 L1 L2 => ?_) (fun j21 h21 => ?_)
  · refine gx_iconst hX 0 22 dw_M_variable_21 (by decide) rfl ?_
    exact gx_pick (lv' := [(0, .ref (ob 0)), (1, .int L1), (2, .int L2)]) hX [0, 1, 2] rfl (h22 σ13 L1 L2 0)
  refine gx_if_lt hX 21 4 dw_M_variable_1 (by decide) rfl (fun _ => ?_) (fun _ => ?_)
  · exact gx_pick (lv' := [(0, .ref (ob 0)), (1, .int L1), (2, .int L2)]) hX [0, 1, 2] rfl (h21 σ L1 L2)
  · refine gx_iload_n hX 1 5 dw_M_variable_4 rfl rfl rfl ?_
    refine gx_jnI (fun (j : gx_S → Int32 → Int32 → gx_R) => ∀ (σ14 : gx_S) (L1 : Int32) (L2 : Int32), gx_G (md_V D ob cI cB cS cZ) X (j σ14 L1 L2) σ14 17 [(0, .ref (ob 0)), (1, .int L1), (2, .int L2)] []) (fun σ14 L1 L2 => ?_) (fun j17 h17 => ?_)
    · refine gx_iconst hX 1 18 dw_M_variable_17 (by decide) rfl ?_
      refine gx_goto hX 22 dw_M_variable_18 (by decide) ?_
      exact gx_pick (lv' := [(0, .ref (ob 0)), (1, .int L1), (2, .int L2)]) hX [0, 1, 2] rfl (h22 σ14 L1 L2 1)
    refine gx_if_eq hX 17 8 dw_M_variable_5 (by decide) rfl (fun _ => ?_) (fun _ => ?_)
    · exact gx_pick (lv' := [(0, .ref (ob 0)), (1, .int L1), (2, .int L2)]) hX [0, 1, 2] rfl (h17 σ L1 L2)
    · refine gx_aload_n hX 0 9 dw_M_variable_8 rfl rfl rfl ?_
      refine gx_iload_n hX 2 10 dw_M_variable_9 rfl rfl rfl ?_
      refine tr_M_equalOnes hX 13 tw_1176 ⟨Nat.le_of_ble_eq_true rfl, Nat.le_of_ble_eq_true rfl⟩ (Nat.le_of_ble_eq_true rfl) dw_M_variable_10 rfl (fun σ15 r16 => ?_)
      refine gx_iload_n hX 2 14 dw_M_variable_13 rfl rfl rfl ?_
      refine gx_icmp_ne hX 21 17 dw_M_variable_14 (by decide) rfl (fun _ => ?_) (fun _ => ?_)
      · exact gx_pick (lv' := [(0, .ref (ob 0)), (1, .int L1), (2, .int L2)]) hX [0, 1, 2] rfl (h21 σ15 L1 L2)
      · exact gx_pick (lv' := [(0, .ref (ob 0)), (1, .int L1), (2, .int L2)]) hX [0, 1, 2] rfl (h17 σ15 L1 L2)
def my_M_variable : MethodName := ⟨"TypeLoomModel", "variable", "(ZI)I"⟩
theorem hy_M_variable : (my_M_variable.cls ≠ "java/lang/invoke/MethodHandle" ∧ my_M_variable.cls ≠ "java/lang/invoke/VarHandle") ∧ (parseMethodDescriptor my_M_variable.desc).map (fun d => d.parameters.length) = some 2 := by decide +kernel
theorem tm_M_variable {D : va_G} {ob : Nat → Nat} {cI cB cS cZ : ClassId} (l : Launch) (σ : gx_S) (L1 : Int32) (L2 : Int32) : gx_C l (md_V D ob cI cB cS cZ) my_M_variable prog_11_method_13_code 5 (some .int) 1 23 [.ref (ob 0), .int L1, .int L2] σ (km_M_variable σ L1 L2) := gx_met (by decide) rfl (Nat.le_of_ble_eq_true rfl) rfl (fun X _ hX => tl_M_variable hX σ L1 L2)
theorem tr_M_variable {D : va_G} {ob : Nat → Nat} {cI cB cS cZ : ClassId} {X : gx_X} {cc : ByteArray} {own : String} {nL fr lo : Nat} {rt : Option FieldType} {σ : gx_S} {pc : Nat} {lv : List (Nat × Value)} {st : List Value} (hX : gx_K (md_V D ob cI cB cS cZ) X cc own nL fr lo rt) {idx : Nat} {L1 : Int32} {L2 : Int32} {k : gx_S → Int32 → gx_R} (n : Nat) (hlink : Cond.methodLink own idx ({ cls := "TypeLoomModel", name := "variable", desc := "(ZI)I" } : Jvm.MethodName) ∈ gx_T) (hroom : 1 + 1 ≤ fr ∧ 8 + (5 + 11) + 23 ≤ lo) (hst : (st.map fun v => v.category).sum ≤ 8) (hd : decode cc pc = .ok (.invokevirtual idx, 3)) (hn : pc + 3 = n) (kk : ∀ σ' r, gx_G (md_V D ob cI cB cS cZ) X (k σ' r) σ' n lv (.int r :: st)) : gx_G (md_V D ob cI cB cS cZ) X (gx_bd (km_M_variable σ L1 L2) k) σ pc lv (.int L2 :: .int L1 :: .ref (ob 0) :: st) :=
  gx_callI hX [.int L1, .int L2] n rfl (tm_M_variable _ σ L1 L2) hy_M_variable tw_1175 hlink tw_1173 tw_1174 tw_79 (gf_recv 0 (show 0 < 1 by decide) rfl rfl) hroom hst hd hn rfl (fun σ' r _ => kk σ' r)
def km_M_rigid (σ : gx_S) (L1 : Int32) : gx_R :=
  if (σ.1 1) = 24576 then
    some (σ, (-2))
  else
    gx_bd (km_M_make σ 1 0) (fun σ1 r2 =>
    gx_st σ1 8 24576 r2 (vp_nar .boolean L1) (fun σ3 =>
    some (σ3, r2)))
set_option maxRecDepth 100000 in
set_option maxHeartbeats 4000000 in
theorem tl_M_rigid {D : va_G} {ob : Nat → Nat} {cI cB cS cZ : ClassId} {X : gx_X} (hX : gx_K (md_V D ob cI cB cS cZ) X prog_11_method_14_code "TypeLoomModel" 3 1 23 (some .int)) (σ : gx_S) (L1 : Int32) : gx_G (md_V D ob cI cB cS cZ) X (km_M_rigid σ L1) σ 0 [(0, .ref (ob 0)), (1, .int L1)] [] := by
  unfold km_M_rigid
  refine gx_aload_n hX 0 1 dw_M_rigid_0 rfl rfl rfl ?_
  refine mg_0 hX 3 4 (by decide) tw_911 rfl dw_M_rigid_1 rfl ?_
  refine gx_sipush hX 24576 7 dw_M_rigid_4 (by decide) rfl ?_
  refine gx_icmp_ne hX 13 10 dw_M_rigid_7 (by decide) rfl (fun _ => ?_) (fun _ => ?_)
  · refine gx_aload_n hX 0 14 dw_M_rigid_13 rfl rfl rfl ?_
    refine gx_iconst hX 1 15 dw_M_rigid_14 (by decide) rfl ?_
    refine gx_iconst hX 0 16 dw_M_rigid_15 (by decide) rfl ?_
    refine tr_M_make hX 19 tw_1152 ⟨Nat.le_of_ble_eq_true rfl, Nat.le_of_ble_eq_true rfl⟩ (Nat.le_of_ble_eq_true rfl) dw_M_rigid_16 rfl (fun σ1 r2 => ?_)
    refine gx_istore_n hX [(2, .int r2), (0, .ref (ob 0)), (1, .int L1)] 20 dw_M_rigid_19 rfl (by decide) rfl rfl ?_
    refine gx_aload_n hX 1 21 dw_M_rigid_20 rfl rfl rfl ?_
    refine mg_0 hX 10 24 (by decide) tw_918 rfl dw_M_rigid_21 rfl ?_
    refine gx_iload_n hX 0 25 dw_M_rigid_24 rfl rfl rfl ?_
    refine gx_iload_n hX 2 26 dw_M_rigid_25 rfl rfl rfl ?_
    refine gf_zast (u := md_u ob cI cB cS cZ) hX 8 9 3 27 (show 8 < 52 by decide) rfl rfl (fun _ _ _ => rfl) dw_M_rigid_26 rfl (fun σ3 => ?_)
    refine gx_iload_n hX 0 28 dw_M_rigid_27 rfl rfl rfl ?_
    exact gx_ret hX dw_M_rigid_28
  · refine gx_bipush hX (-2) 12 dw_M_rigid_10 (by decide) rfl ?_
    exact gx_ret hX dw_M_rigid_12
def my_M_rigid : MethodName := ⟨"TypeLoomModel", "rigid", "(Z)I"⟩
theorem hy_M_rigid : (my_M_rigid.cls ≠ "java/lang/invoke/MethodHandle" ∧ my_M_rigid.cls ≠ "java/lang/invoke/VarHandle") ∧ (parseMethodDescriptor my_M_rigid.desc).map (fun d => d.parameters.length) = some 1 := by decide +kernel
theorem tm_M_rigid {D : va_G} {ob : Nat → Nat} {cI cB cS cZ : ClassId} (l : Launch) (σ : gx_S) (L1 : Int32) : gx_C l (md_V D ob cI cB cS cZ) my_M_rigid prog_11_method_14_code 3 (some .int) 1 23 [.ref (ob 0), .int L1] σ (km_M_rigid σ L1) := gx_met (by decide) rfl (Nat.le_of_ble_eq_true rfl) rfl (fun X _ hX => tl_M_rigid hX σ L1)
theorem tr_M_rigid {D : va_G} {ob : Nat → Nat} {cI cB cS cZ : ClassId} {X : gx_X} {cc : ByteArray} {own : String} {nL fr lo : Nat} {rt : Option FieldType} {σ : gx_S} {pc : Nat} {lv : List (Nat × Value)} {st : List Value} (hX : gx_K (md_V D ob cI cB cS cZ) X cc own nL fr lo rt) {idx : Nat} {L1 : Int32} {k : gx_S → Int32 → gx_R} (n : Nat) (hlink : Cond.methodLink own idx ({ cls := "TypeLoomModel", name := "rigid", desc := "(Z)I" } : Jvm.MethodName) ∈ gx_T) (hroom : 1 + 1 ≤ fr ∧ 8 + (3 + 11) + 23 ≤ lo) (hst : (st.map fun v => v.category).sum ≤ 8) (hd : decode cc pc = .ok (.invokevirtual idx, 3)) (hn : pc + 3 = n) (kk : ∀ σ' r, gx_G (md_V D ob cI cB cS cZ) X (k σ' r) σ' n lv (.int r :: st)) : gx_G (md_V D ob cI cB cS cZ) X (gx_bd (km_M_rigid σ L1) k) σ pc lv (.int L1 :: .ref (ob 0) :: st) :=
  gx_callI hX [.int L1] n rfl (tm_M_rigid _ σ L1) hy_M_rigid tw_1183 hlink tw_1181 tw_1182 tw_79 (gf_recv 0 (show 0 < 1 by decide) rfl rfl) hroom hst hd hn rfl (fun σ' r _ => kk σ' r)
def km_M_level (σ : gx_S) (L1 : Int32) : gx_R :=
  if L1 < 0 then
    some (σ, (-1))
  else
    if L1 ≤ 100 then
      gx_bv ((σ.1 7)) (fun x1 =>
      gx_sb (gx_si σ 7 L1) (fun σ2 =>
      some (σ2, x1)))
    else
      some (σ, (-1))
set_option maxRecDepth 100000 in
set_option maxHeartbeats 4000000 in
theorem tl_M_level {D : va_G} {ob : Nat → Nat} {cI cB cS cZ : ClassId} {X : gx_X} (hX : gx_K (md_V D ob cI cB cS cZ) X prog_11_method_15_code "TypeLoomModel" 3 0 0 (some .int)) (σ : gx_S) (L1 : Int32) : gx_G (md_V D ob cI cB cS cZ) X (km_M_level σ L1) σ 0 [(0, .ref (ob 0)), (1, .int L1)] [] := by
  unfold km_M_level
  refine gx_iload_n hX 1 1 dw_M_level_0 rfl rfl rfl ?_
  refine gx_if_lt hX 10 4 dw_M_level_1 (by decide) rfl (fun _ => ?_) (fun _ => ?_)
  · refine gx_iconst hX (-1) 11 dw_M_level_10 (by decide) rfl ?_
    exact gx_ret hX dw_M_level_11
  · refine gx_iload_n hX 1 5 dw_M_level_4 rfl rfl rfl ?_
    refine gx_bipush hX 100 7 dw_M_level_5 (by decide) rfl ?_
    refine gx_icmp_le hX 12 10 dw_M_level_7 (by decide) rfl (fun _ => ?_) (fun _ => ?_)
    · refine gx_aload_n hX 0 13 dw_M_level_12 rfl rfl rfl ?_
      refine mg_0 hX 29 16 (by decide) tw_937 rfl dw_M_level_13 rfl ?_
      refine gx_bvN (fun x1 => ?_)
      refine gx_istore_n hX [(2, .int x1), (0, .ref (ob 0)), (1, .int L1)] 17 dw_M_level_16 rfl (by decide) rfl rfl ?_
      refine gx_aload_n hX 1 18 dw_M_level_17 rfl rfl rfl ?_
      refine gx_iload_n hX 2 19 dw_M_level_18 rfl rfl rfl ?_
      refine mp_7 hX 22 tw_937 dw_M_level_19 rfl (fun σ2 => ?_)
      refine gx_iload_n hX 0 23 dw_M_level_22 rfl rfl rfl ?_
      exact gx_ret hX dw_M_level_23
    · refine gx_iconst hX (-1) 11 dw_M_level_10 (by decide) rfl ?_
      exact gx_ret hX dw_M_level_11
def my_M_level : MethodName := ⟨"TypeLoomModel", "level", "(I)I"⟩
theorem hy_M_level : (my_M_level.cls ≠ "java/lang/invoke/MethodHandle" ∧ my_M_level.cls ≠ "java/lang/invoke/VarHandle") ∧ (parseMethodDescriptor my_M_level.desc).map (fun d => d.parameters.length) = some 1 := by decide +kernel
theorem tm_M_level {D : va_G} {ob : Nat → Nat} {cI cB cS cZ : ClassId} (l : Launch) (σ : gx_S) (L1 : Int32) : gx_C l (md_V D ob cI cB cS cZ) my_M_level prog_11_method_15_code 3 (some .int) 0 0 [.ref (ob 0), .int L1] σ (km_M_level σ L1) := gx_met (by decide) rfl (Nat.le_of_ble_eq_true rfl) rfl (fun X _ hX => tl_M_level hX σ L1)
theorem tr_M_level {D : va_G} {ob : Nat → Nat} {cI cB cS cZ : ClassId} {X : gx_X} {cc : ByteArray} {own : String} {nL fr lo : Nat} {rt : Option FieldType} {σ : gx_S} {pc : Nat} {lv : List (Nat × Value)} {st : List Value} (hX : gx_K (md_V D ob cI cB cS cZ) X cc own nL fr lo rt) {idx : Nat} {L1 : Int32} {k : gx_S → Int32 → gx_R} (n : Nat) (hlink : Cond.methodLink own idx ({ cls := "TypeLoomModel", name := "level", desc := "(I)I" } : Jvm.MethodName) ∈ gx_T) (hroom : 0 + 1 ≤ fr ∧ 8 + (3 + 11) + 0 ≤ lo) (hst : (st.map fun v => v.category).sum ≤ 8) (hd : decode cc pc = .ok (.invokevirtual idx, 3)) (hn : pc + 3 = n) (kk : ∀ σ' r, gx_G (md_V D ob cI cB cS cZ) X (k σ' r) σ' n lv (.int r :: st)) : gx_G (md_V D ob cI cB cS cZ) X (gx_bd (km_M_level σ L1) k) σ pc lv (.int L1 :: .ref (ob 0) :: st) :=
  gx_callI hX [.int L1] n rfl (tm_M_level _ σ L1) hy_M_level tw_1187 hlink tw_1185 tw_1186 tw_79 (gf_recv 0 (show 0 < 1 by decide) rfl rfl) hroom hst hd hn rfl (fun σ' r _ => kk σ' r)
def km_M_unify (σ : gx_S) (L1 : Int32) (L2 : Int32) : gx_R :=
  gx_bd (km_M_isType σ L1) (fun σ1 r2 =>
  if r2 = 0 then
    gx_rz σ1 0
  else
    gx_bd (km_M_isType σ1 L2) (fun σ3 r4 =>
    if r4 = 0 then
      gx_rz σ3 0
    else
      gx_bv ((σ3.1 4)) (fun x5 =>
      gx_bv ((σ3.1 5)) (fun x6 =>
      none))))
set_option maxRecDepth 100000 in
set_option maxHeartbeats 4000000 in
theorem tl_M_unify {D : va_G} {ob : Nat → Nat} {cI cB cS cZ : ClassId} {X : gx_X} (hX : gx_K (md_V D ob cI cB cS cZ) X prog_11_method_43_code "TypeLoomModel" 6 1 21 (some .boolean)) (σ : gx_S) (L1 : Int32) (L2 : Int32) : gx_G (md_V D ob cI cB cS cZ) X (km_M_unify σ L1 L2) σ 0 [(0, .ref (ob 0)), (1, .int L1), (2, .int L2)] [] := by
  unfold km_M_unify
  refine gx_aload_n hX 0 1 dw_M_unify_0 rfl rfl rfl ?_
  refine gx_iload_n hX 1 2 dw_M_unify_1 rfl rfl rfl ?_
  refine tr_M_isType hX 5 tw_1140 ⟨Nat.le_of_ble_eq_true rfl, Nat.le_of_ble_eq_true rfl⟩ (Nat.le_of_ble_eq_true rfl) dw_M_unify_2 rfl (fun σ1 r2 => ?_)
  refine gx_if_eq hX 16 8 dw_M_unify_5 (by decide) rfl (fun _ => ?_) (fun _ => ?_)
  · refine gx_iconst hX 0 17 dw_M_unify_16 (by decide) rfl ?_
    exact gx_retz hX dw_M_unify_17
  · refine gx_aload_n hX 0 9 dw_M_unify_8 rfl rfl rfl ?_
    refine gx_iload_n hX 2 10 dw_M_unify_9 rfl rfl rfl ?_
    refine tr_M_isType hX 13 tw_1140 ⟨Nat.le_of_ble_eq_true rfl, Nat.le_of_ble_eq_true rfl⟩ (Nat.le_of_ble_eq_true rfl) dw_M_unify_10 rfl (fun σ3 r4 => ?_)
    refine gx_if_ne hX 18 16 dw_M_unify_13 (by decide) rfl (fun _ => ?_) (fun _ => ?_)
    · refine gx_aload_n hX 0 19 dw_M_unify_18 rfl rfl rfl ?_
      refine mg_0 hX 17 22 (by decide) tw_925 rfl dw_M_unify_19 rfl ?_
      refine gx_bvN (fun x5 => ?_)
      refine gx_istore_n hX [(3, .int x5), (0, .ref (ob 0)), (1, .int L1), (2, .int L2)] 23 dw_M_unify_22 rfl (by decide) rfl rfl ?_
      refine gx_aload_n hX 1 24 dw_M_unify_23 rfl rfl rfl ?_
      refine mg_0 hX 23 27 (by decide) tw_931 rfl dw_M_unify_24 rfl ?_
      refine gx_bvN (fun x6 => ?_)
      refine gx_istore hX [(4, .int x6), (3, .int x5), (0, .ref (ob 0)), (1, .int L1), (2, .int L2)] 29 dw_M_unify_27 (by decide) rfl rfl ?_
      refine gx_aload_n hX 2 30 dw_M_unify_29 rfl rfl rfl ?_
      exact gx_none
    · refine gx_iconst hX 0 17 dw_M_unify_16 (by decide) rfl ?_
      exact gx_retz hX dw_M_unify_17
def my_M_unify : MethodName := ⟨"TypeLoomModel", "unify", "(II)Z"⟩
theorem hy_M_unify : (my_M_unify.cls ≠ "java/lang/invoke/MethodHandle" ∧ my_M_unify.cls ≠ "java/lang/invoke/VarHandle") ∧ (parseMethodDescriptor my_M_unify.desc).map (fun d => d.parameters.length) = some 2 := by decide +kernel
theorem tm_M_unify {D : va_G} {ob : Nat → Nat} {cI cB cS cZ : ClassId} (l : Launch) (σ : gx_S) (L1 : Int32) (L2 : Int32) : gx_C l (md_V D ob cI cB cS cZ) my_M_unify prog_11_method_43_code 6 (some .boolean) 1 21 [.ref (ob 0), .int L1, .int L2] σ (km_M_unify σ L1 L2) := gx_met (by decide) rfl (Nat.le_of_ble_eq_true rfl) rfl (fun X _ hX => tl_M_unify hX σ L1 L2)
theorem tr_M_unify {D : va_G} {ob : Nat → Nat} {cI cB cS cZ : ClassId} {X : gx_X} {cc : ByteArray} {own : String} {nL fr lo : Nat} {rt : Option FieldType} {σ : gx_S} {pc : Nat} {lv : List (Nat × Value)} {st : List Value} (hX : gx_K (md_V D ob cI cB cS cZ) X cc own nL fr lo rt) {idx : Nat} {L1 : Int32} {L2 : Int32} {k : gx_S → Int32 → gx_R} (n : Nat) (hlink : Cond.methodLink own idx ({ cls := "TypeLoomModel", name := "unify", desc := "(II)Z" } : Jvm.MethodName) ∈ gx_T) (hroom : 1 + 1 ≤ fr ∧ 8 + (6 + 11) + 21 ≤ lo) (hst : (st.map fun v => v.category).sum ≤ 8) (hd : decode cc pc = .ok (.invokevirtual idx, 3)) (hn : pc + 3 = n) (kk : ∀ σ' r, gx_G (md_V D ob cI cB cS cZ) X (k σ' r) σ' n lv (.int r :: st)) : gx_G (md_V D ob cI cB cS cZ) X (gx_bd (km_M_unify σ L1 L2) k) σ pc lv (.int L2 :: .int L1 :: .ref (ob 0) :: st) :=
  gx_callI hX [.int L1, .int L2] n rfl (tm_M_unify _ σ L1 L2) hy_M_unify tw_1191 hlink tw_1189 tw_1190 tw_79 (gf_recv 0 (show 0 < 1 by decide) rfl rfl) hroom hst hd hn rfl (fun σ' r _ => kk σ' r)
def km_M_same (σ : gx_S) (L1 : Int32) (L2 : Int64) (L4 : Int32) (L5 : Int64) : gx_R :=
  gx_bd (km_M_follow σ L1 L2) (fun σ1 r2 =>
  gx_bd (km_M_follow σ1 L4 L5) (fun σ3 r4 =>
  if r2 < 0 then
    gx_rz σ3 0
  else
    if r4 < 0 then
      gx_rz σ3 0
    else
      none))
set_option maxRecDepth 100000 in
set_option maxHeartbeats 4000000 in
theorem tl_M_same {D : va_G} {ob : Nat → Nat} {cI cB cS cZ : ClassId} {X : gx_X} (hX : gx_K (md_V D ob cI cB cS cZ) X prog_11_method_46_code "TypeLoomModel" 9 2 47 (some .boolean)) (σ : gx_S) (L1 : Int32) (L2 : Int64) (L4 : Int32) (L5 : Int64) : gx_G (md_V D ob cI cB cS cZ) X (km_M_same σ L1 L2 L4 L5) σ 0 [(0, .ref (ob 0)), (1, .int L1), (2, .long L2), (4, .int L4), (5, .long L5)] [] := by
  unfold km_M_same
  refine gx_aload_n hX 0 1 dw_M_same_0 rfl rfl rfl ?_
  refine gx_iload_n hX 1 2 dw_M_same_1 rfl rfl rfl ?_
  refine gx_lload_n hX 2 3 dw_M_same_2 rfl rfl rfl ?_
  refine tr_M_follow hX 6 tw_1288 ⟨Nat.le_of_ble_eq_true rfl, Nat.le_of_ble_eq_true rfl⟩ (Nat.le_of_ble_eq_true rfl) dw_M_same_3 rfl (fun σ1 r2 => ?_)
  refine gx_istore hX [(7, .int r2), (0, .ref (ob 0)), (1, .int L1), (2, .long L2), (4, .int L4), (5, .long L5)] 8 dw_M_same_6 (by decide) rfl rfl ?_
  refine gx_aload_n hX 1 9 dw_M_same_8 rfl rfl rfl ?_
  refine gx_iload hX 4 11 dw_M_same_9 rfl rfl ?_
  refine gx_lload hX 5 13 dw_M_same_11 rfl rfl ?_
  refine tr_M_follow hX 16 tw_1288 ⟨Nat.le_of_ble_eq_true rfl, Nat.le_of_ble_eq_true rfl⟩ (Nat.le_of_ble_eq_true rfl) dw_M_same_13 rfl (fun σ3 r4 => ?_)
  refine gx_istore hX [(8, .int r4), (7, .int r2), (0, .ref (ob 0)), (1, .int L1), (2, .long L2), (4, .int L4), (5, .long L5)] 18 dw_M_same_16 (by decide) rfl rfl ?_
  refine gx_iload hX 1 20 dw_M_same_18 rfl rfl ?_
  refine gx_if_lt hX 43 23 dw_M_same_20 (by decide) rfl (fun _ => ?_) (fun _ => ?_)
  · refine gx_iconst hX 0 44 dw_M_same_43 (by decide) rfl ?_
    exact gx_retz hX dw_M_same_44
  · refine gx_iload hX 0 25 dw_M_same_23 rfl rfl ?_
    refine gx_if_lt hX 43 28 dw_M_same_25 (by decide) rfl (fun _ => ?_) (fun _ => ?_)
    · refine gx_iconst hX 0 44 dw_M_same_43 (by decide) rfl ?_
      exact gx_retz hX dw_M_same_44
    · refine gx_aload_n hX 2 29 dw_M_same_28 rfl rfl rfl ?_
      refine gx_iload hX 1 31 dw_M_same_29 rfl rfl ?_
      refine gx_iload hX 0 33 dw_M_same_31 rfl rfl ?_
      exact gx_none
def my_M_same : MethodName := ⟨"TypeLoomModel", "same", "(IJIJ)Z"⟩
theorem hy_M_same : (my_M_same.cls ≠ "java/lang/invoke/MethodHandle" ∧ my_M_same.cls ≠ "java/lang/invoke/VarHandle") ∧ (parseMethodDescriptor my_M_same.desc).map (fun d => d.parameters.length) = some 4 := by decide +kernel
theorem tm_M_same {D : va_G} {ob : Nat → Nat} {cI cB cS cZ : ClassId} (l : Launch) (σ : gx_S) (L1 : Int32) (L2 : Int64) (L4 : Int32) (L5 : Int64) : gx_C l (md_V D ob cI cB cS cZ) my_M_same prog_11_method_46_code 9 (some .boolean) 2 47 [.ref (ob 0), .int L1, .long L2, .int L4, .long L5] σ (km_M_same σ L1 L2 L4 L5) := gx_met (by decide) rfl (Nat.le_of_ble_eq_true rfl) rfl (fun X _ hX => tl_M_same hX σ L1 L2 L4 L5)
theorem tr_M_same {D : va_G} {ob : Nat → Nat} {cI cB cS cZ : ClassId} {X : gx_X} {cc : ByteArray} {own : String} {nL fr lo : Nat} {rt : Option FieldType} {σ : gx_S} {pc : Nat} {lv : List (Nat × Value)} {st : List Value} (hX : gx_K (md_V D ob cI cB cS cZ) X cc own nL fr lo rt) {idx : Nat} {L1 : Int32} {L2 : Int64} {L4 : Int32} {L5 : Int64} {k : gx_S → Int32 → gx_R} (n : Nat) (hlink : Cond.methodLink own idx ({ cls := "TypeLoomModel", name := "same", desc := "(IJIJ)Z" } : Jvm.MethodName) ∈ gx_T) (hroom : 2 + 1 ≤ fr ∧ 8 + (9 + 11) + 47 ≤ lo) (hst : (st.map fun v => v.category).sum ≤ 8) (hd : decode cc pc = .ok (.invokevirtual idx, 3)) (hn : pc + 3 = n) (kk : ∀ σ' r, gx_G (md_V D ob cI cB cS cZ) X (k σ' r) σ' n lv (.int r :: st)) : gx_G (md_V D ob cI cB cS cZ) X (gx_bd (km_M_same σ L1 L2 L4 L5) k) σ pc lv (.long L5 :: .int L4 :: .long L2 :: .int L1 :: .ref (ob 0) :: st) :=
  gx_callI hX [.int L1, .long L2, .int L4, .long L5] n rfl (tm_M_same _ σ L1 L2 L4 L5) hy_M_same tw_1287 hlink tw_1285 tw_1286 tw_79 (gf_recv 0 (show 0 < 1 by decide) rfl rfl) hroom hst hd hn rfl (fun σ' r _ => kk σ' r)
def km_M_look (σ : gx_S) (L1 : Int32) (L2 : Int64) (L4 : Int32) : gx_R :=
  gx_bd (km_M_follow σ L1 L2) (fun σ1 r2 =>
  if 0 ≤ r2 then
    gx_ld σ1 2 24576 r2 (fun r3 =>
    gx_jn (fun (σ4 : gx_S) (L4 : Int32) (L5 : Int32) (S0 : Int32) =>
      if L4 = 0 then
        gx_ld σ4 2 24576 L5 (fun r5 =>
        some (σ4, r5))
      else if L4 = 1 then
        gx_ld σ4 2 24576 L5 (fun r6 =>
        if r6 = 2 then
          gx_ld σ4 3 24576 L5 (fun r7 =>
          some (σ4, r7))
        else
          some (σ4, (-1)))
      else if L4 = 2 then
        none
      else if L4 = 3 then
        none
      else if L4 = 4 then
        gx_ld σ4 2 24576 L5 (fun r8 =>
        if 2 ≤ r8 then
          if S0 < 0 then
            some (σ4, (-1))
          else
            gx_ld σ4 13 1100 S0 (fun r9 =>
            some (σ4, r9))
        else
          gx_ld σ4 7 24576 L5 (fun r10 =>
          some (σ4, r10)))
      else if L4 = 5 then
        gx_ld σ4 2 24576 L5 (fun r11 =>
        if r11 = 0 then
          gx_ld σ4 9 24576 L5 (fun r12 =>
          some (σ4, r12))
        else
          some (σ4, (-1)))
      else if L4 = 6 then
        gx_ld σ4 2 24576 L5 (fun r13 =>
        if r13 = 4 then
          if S0 < 0 then
            some (σ4, 0)
          else
            some (σ4, 1)
        else
          some (σ4, (-1)))
      else some (σ4, (-1))) (fun j37 =>
    if r3 = 4 then
      none
    else
      j37 σ1 L4 r2 (-1)))
  else
    some (σ1, (-1)))
set_option maxRecDepth 100000 in
set_option maxHeartbeats 4000000 in
theorem tl_M_look {D : va_G} {ob : Nat → Nat} {cI cB cS cZ : ClassId} {X : gx_X} (hX : gx_K (md_V D ob cI cB cS cZ) X prog_11_method_47_code "TypeLoomModel" 7 2 47 (some .int)) (σ : gx_S) (L1 : Int32) (L2 : Int64) (L4 : Int32) : gx_G (md_V D ob cI cB cS cZ) X (km_M_look σ L1 L2 L4) σ 0 [(0, .ref (ob 0)), (1, .int L1), (2, .long L2), (4, .int L4)] [] := by
  unfold km_M_look
  refine gx_aload_n hX 0 1 dw_M_look_0 rfl rfl rfl ?_
  refine gx_iload_n hX 1 2 dw_M_look_1 rfl rfl rfl ?_
  refine gx_lload_n hX 2 3 dw_M_look_2 rfl rfl rfl ?_
  refine tr_M_follow hX 6 tw_1288 ⟨Nat.le_of_ble_eq_true rfl, Nat.le_of_ble_eq_true rfl⟩ (Nat.le_of_ble_eq_true rfl) dw_M_look_3 rfl (fun σ1 r2 => ?_)
  refine gx_istore hX [(5, .int r2), (0, .ref (ob 0)), (1, .int L1), (2, .long L2), (4, .int L4)] 8 dw_M_look_6 (by decide) rfl rfl ?_
  refine gx_iload hX 0 10 dw_M_look_8 rfl rfl ?_
  refine gx_if_ge hX 15 13 dw_M_look_10 (by decide) rfl (fun _ => ?_) (fun _ => ?_)
  · refine gx_aload_n hX 1 16 dw_M_look_15 rfl rfl rfl ?_
    refine mg_0 hX 4 19 (by decide) tw_912 rfl dw_M_look_16 rfl ?_
    refine gx_iload hX 0 21 dw_M_look_19 rfl rfl ?_
    refine gf_bald (u := md_u ob cI cB cS cZ) hX 2 3 1 22 (show 2 < 52 by decide) rfl rfl dw_M_look_21 rfl (fun r3 => ?_)
    refine gx_iconst hX 4 23 dw_M_look_22 (by decide) rfl ?_
    refine gx_jnI (fun (j : gx_S → Int32 → Int32 → Int32 → gx_R) => ∀ (σ4 : gx_S) (L4 : Int32) (L5 : Int32) (S0 : Int32), gx_G (md_V D ob cI cB cS cZ) X (j σ4 L4 L5 S0) σ4 37 [(0, .ref (ob 0)), (4, .int L4), (5, .int L5)] [.int S0]) (fun σ4 L4 L5 S0 => ?_) (fun j37 h37 => ?_)
    · refine gx_istore hX [(6, .int S0), (0, .ref (ob 0)), (4, .int L4), (5, .int L5)] 39 dw_M_look_37 (by decide) rfl rfl ?_
      refine gx_iload hX 2 41 dw_M_look_39 rfl rfl ?_
      refine gx_tsw7 hX 84 92 115 122 137 175 197 223 dw_M_look_41 (by decide) (by decide) (by decide) (by decide) (by decide) (by decide) (by decide) (by decide) ?_ ?_ ?_ ?_ ?_ ?_ ?_ ?_
      · refine gx_aload_n hX 1 85 dw_M_look_84 rfl rfl rfl ?_
        refine mg_0 hX 4 88 (by decide) tw_912 rfl dw_M_look_85 rfl ?_
        refine gx_iload hX 3 90 dw_M_look_88 rfl rfl ?_
        refine gf_bald (u := md_u ob cI cB cS cZ) hX 2 3 1 91 (show 2 < 52 by decide) rfl rfl dw_M_look_90 rfl (fun r5 => ?_)
        exact gx_ret hX dw_M_look_91
      · refine gx_aload_n hX 1 93 dw_M_look_92 rfl rfl rfl ?_
        refine mg_0 hX 4 96 (by decide) tw_912 rfl dw_M_look_93 rfl ?_
        refine gx_iload hX 3 98 dw_M_look_96 rfl rfl ?_
        refine gf_bald (u := md_u ob cI cB cS cZ) hX 2 3 1 99 (show 2 < 52 by decide) rfl rfl dw_M_look_98 rfl (fun r6 => ?_)
        refine gx_iconst hX 2 100 dw_M_look_99 (by decide) rfl ?_
        refine gx_icmp_ne hX 113 103 dw_M_look_100 (by decide) rfl (fun _ => ?_) (fun _ => ?_)
        · refine gx_iconst hX (-1) 114 dw_M_look_113 (by decide) rfl ?_
          exact gx_ret hX dw_M_look_114
        · refine gx_aload_n hX 1 104 dw_M_look_103 rfl rfl rfl ?_
          refine mg_0 hX 5 107 (by decide) tw_913 rfl dw_M_look_104 rfl ?_
          refine gx_iload hX 3 109 dw_M_look_107 rfl rfl ?_
          refine gf_iald (u := md_u ob cI cB cS cZ) hX 3 4 0 110 (show 3 < 52 by decide) rfl rfl dw_M_look_109 rfl (fun r7 => ?_)
          refine gx_goto hX 114 dw_M_look_110 (by decide) ?_
          exact gx_ret hX dw_M_look_114
      · refine gx_aload_n hX 1 116 dw_M_look_115 rfl rfl rfl ?_
        refine gx_iload hX 3 118 dw_M_look_116 rfl rfl ?_
        exact gx_none
      · refine gx_aload_n hX 1 123 dw_M_look_122 rfl rfl rfl ?_
        refine gx_iload hX 3 125 dw_M_look_123 rfl rfl ?_
        exact gx_none
      · refine gx_aload_n hX 1 138 dw_M_look_137 rfl rfl rfl ?_
        refine mg_0 hX 4 141 (by decide) tw_912 rfl dw_M_look_138 rfl ?_
        refine gx_iload hX 3 143 dw_M_look_141 rfl rfl ?_
        refine gf_bald (u := md_u ob cI cB cS cZ) hX 2 3 1 144 (show 2 < 52 by decide) rfl rfl dw_M_look_143 rfl (fun r8 => ?_)
        refine gx_iconst hX 2 145 dw_M_look_144 (by decide) rfl ?_
        refine gx_icmp_ge hX 158 148 dw_M_look_145 (by decide) rfl (fun _ => ?_) (fun _ => ?_)
        · refine gx_iload hX 0 160 dw_M_look_158 rfl rfl ?_
          refine gx_if_lt hX 173 163 dw_M_look_160 (by decide) rfl (fun _ => ?_) (fun _ => ?_)
          · refine gx_iconst hX (-1) 174 dw_M_look_173 (by decide) rfl ?_
            exact gx_ret hX dw_M_look_174
          · refine gx_aload_n hX 1 164 dw_M_look_163 rfl rfl rfl ?_
            refine mg_0 hX 18 167 (by decide) tw_926 rfl dw_M_look_164 rfl ?_
            refine gx_iload hX 0 169 dw_M_look_167 rfl rfl ?_
            refine gf_bald (u := md_u ob cI cB cS cZ) hX 13 14 1 170 (show 13 < 52 by decide) rfl rfl dw_M_look_169 rfl (fun r9 => ?_)
            refine gx_goto hX 174 dw_M_look_170 (by decide) ?_
            exact gx_ret hX dw_M_look_174
        · refine gx_aload_n hX 1 149 dw_M_look_148 rfl rfl rfl ?_
          refine mg_0 hX 9 152 (by decide) tw_917 rfl dw_M_look_149 rfl ?_
          refine gx_iload hX 3 154 dw_M_look_152 rfl rfl ?_
          refine gf_bald (u := md_u ob cI cB cS cZ) hX 7 8 1 155 (show 7 < 52 by decide) rfl rfl dw_M_look_154 rfl (fun r10 => ?_)
          refine gx_goto hX 174 dw_M_look_155 (by decide) ?_
          exact gx_ret hX dw_M_look_174
      · refine gx_aload_n hX 1 176 dw_M_look_175 rfl rfl rfl ?_
        refine mg_0 hX 4 179 (by decide) tw_912 rfl dw_M_look_176 rfl ?_
        refine gx_iload hX 3 181 dw_M_look_179 rfl rfl ?_
        refine gf_bald (u := md_u ob cI cB cS cZ) hX 2 3 1 182 (show 2 < 52 by decide) rfl rfl dw_M_look_181 rfl (fun r11 => ?_)
        refine gx_if_ne hX 195 185 dw_M_look_182 (by decide) rfl (fun _ => ?_) (fun _ => ?_)
        · refine gx_iconst hX (-1) 196 dw_M_look_195 (by decide) rfl ?_
          exact gx_ret hX dw_M_look_196
        · refine gx_aload_n hX 1 186 dw_M_look_185 rfl rfl rfl ?_
          refine mg_0 hX 11 189 (by decide) tw_919 rfl dw_M_look_186 rfl ?_
          refine gx_iload hX 3 191 dw_M_look_189 rfl rfl ?_
          refine gf_iald (u := md_u ob cI cB cS cZ) hX 9 10 0 192 (show 9 < 52 by decide) rfl rfl dw_M_look_191 rfl (fun r12 => ?_)
          refine gx_goto hX 196 dw_M_look_192 (by decide) ?_
          exact gx_ret hX dw_M_look_196
      · refine gx_aload_n hX 1 198 dw_M_look_197 rfl rfl rfl ?_
        refine mg_0 hX 4 201 (by decide) tw_912 rfl dw_M_look_198 rfl ?_
        refine gx_iload hX 3 203 dw_M_look_201 rfl rfl ?_
        refine gf_bald (u := md_u ob cI cB cS cZ) hX 2 3 1 204 (show 2 < 52 by decide) rfl rfl dw_M_look_203 rfl (fun r13 => ?_)
        refine gx_iconst hX 4 205 dw_M_look_204 (by decide) rfl ?_
        refine gx_icmp_eq hX 212 208 dw_M_look_205 (by decide) rfl (fun _ => ?_) (fun _ => ?_)
        · refine gx_iload hX 0 214 dw_M_look_212 rfl rfl ?_
          refine gx_if_lt hX 221 217 dw_M_look_214 (by decide) rfl (fun _ => ?_) (fun _ => ?_)
          · refine gx_iconst hX 0 222 dw_M_look_221 (by decide) rfl ?_
            exact gx_ret hX dw_M_look_222
          · refine gx_iconst hX 1 218 dw_M_look_217 (by decide) rfl ?_
            refine gx_goto hX 222 dw_M_look_218 (by decide) ?_
            exact gx_ret hX dw_M_look_222
        · refine gx_iconst hX (-1) 209 dw_M_look_208 (by decide) rfl ?_
          refine gx_goto hX 222 dw_M_look_209 (by decide) ?_
          exact gx_ret hX dw_M_look_222
      · refine gx_iconst hX (-1) 224 dw_M_look_223 (by decide) rfl ?_
        exact gx_ret hX dw_M_look_224
    refine gx_icmp_ne hX 36 26 dw_M_look_23 (by decide) rfl (fun _ => ?_) (fun _ => ?_)
    · refine gx_iconst hX (-1) 37 dw_M_look_36 (by decide) rfl ?_
      exact gx_pick (lv' := [(0, .ref (ob 0)), (4, .int L4), (5, .int r2)]) hX [1, 4, 0] rfl (h37 σ1 L4 r2 (-1))
    · refine gx_aload_n hX 1 27 dw_M_look_26 rfl rfl rfl ?_
      refine gx_iload hX 0 29 dw_M_look_27 rfl rfl ?_
      refine gx_iconst hX 0 30 dw_M_look_29 (by decide) rfl ?_
      exact gx_none
  · refine gx_iconst hX (-1) 14 dw_M_look_13 (by decide) rfl ?_
    exact gx_ret hX dw_M_look_14
def my_M_look : MethodName := ⟨"TypeLoomModel", "look", "(IJI)I"⟩
theorem hy_M_look : (my_M_look.cls ≠ "java/lang/invoke/MethodHandle" ∧ my_M_look.cls ≠ "java/lang/invoke/VarHandle") ∧ (parseMethodDescriptor my_M_look.desc).map (fun d => d.parameters.length) = some 3 := by decide +kernel
theorem tm_M_look {D : va_G} {ob : Nat → Nat} {cI cB cS cZ : ClassId} (l : Launch) (σ : gx_S) (L1 : Int32) (L2 : Int64) (L4 : Int32) : gx_C l (md_V D ob cI cB cS cZ) my_M_look prog_11_method_47_code 7 (some .int) 2 47 [.ref (ob 0), .int L1, .long L2, .int L4] σ (km_M_look σ L1 L2 L4) := gx_met (by decide) rfl (Nat.le_of_ble_eq_true rfl) rfl (fun X _ hX => tl_M_look hX σ L1 L2 L4)
theorem tr_M_look {D : va_G} {ob : Nat → Nat} {cI cB cS cZ : ClassId} {X : gx_X} {cc : ByteArray} {own : String} {nL fr lo : Nat} {rt : Option FieldType} {σ : gx_S} {pc : Nat} {lv : List (Nat × Value)} {st : List Value} (hX : gx_K (md_V D ob cI cB cS cZ) X cc own nL fr lo rt) {idx : Nat} {L1 : Int32} {L2 : Int64} {L4 : Int32} {k : gx_S → Int32 → gx_R} (n : Nat) (hlink : Cond.methodLink own idx ({ cls := "TypeLoomModel", name := "look", desc := "(IJI)I" } : Jvm.MethodName) ∈ gx_T) (hroom : 2 + 1 ≤ fr ∧ 8 + (7 + 11) + 47 ≤ lo) (hst : (st.map fun v => v.category).sum ≤ 8) (hd : decode cc pc = .ok (.invokevirtual idx, 3)) (hn : pc + 3 = n) (kk : ∀ σ' r, gx_G (md_V D ob cI cB cS cZ) X (k σ' r) σ' n lv (.int r :: st)) : gx_G (md_V D ob cI cB cS cZ) X (gx_bd (km_M_look σ L1 L2 L4) k) σ pc lv (.int L4 :: .long L2 :: .int L1 :: .ref (ob 0) :: st) :=
  gx_callI hX [.int L1, .long L2, .int L4] n rfl (tm_M_look _ σ L1 L2 L4) hy_M_look tw_1308 hlink tw_1306 tw_1307 tw_79 (gf_recv 0 (show 0 < 1 by decide) rfl rfl) hroom hst hd hn rfl (fun σ' r _ => kk σ' r)
def km_M_label (σ : gx_S) (L1 : Int32) (L2 : Int64) (L4 : Int32) : gx_R :=
  gx_bd (km_M_follow σ L1 L2) (fun σ1 r2 =>
  if r2 < 0 then
    some (σ1, (-1))
  else
    gx_ld σ1 2 24576 r2 (fun r3 =>
    if r3 = 4 then
      if 0 ≤ L4 then
        none
      else
        some (σ1, (-1))
    else
      some (σ1, (-1))))
set_option maxRecDepth 100000 in
set_option maxHeartbeats 4000000 in
theorem tl_M_label {D : va_G} {ob : Nat → Nat} {cI cB cS cZ : ClassId} {X : gx_X} (hX : gx_K (md_V D ob cI cB cS cZ) X prog_11_method_48_code "TypeLoomModel" 7 2 47 (some .int)) (σ : gx_S) (L1 : Int32) (L2 : Int64) (L4 : Int32) : gx_G (md_V D ob cI cB cS cZ) X (km_M_label σ L1 L2 L4) σ 0 [(0, .ref (ob 0)), (1, .int L1), (2, .long L2), (4, .int L4)] [] := by
  unfold km_M_label
  refine gx_aload_n hX 0 1 dw_M_label_0 rfl rfl rfl ?_
  refine gx_iload_n hX 1 2 dw_M_label_1 rfl rfl rfl ?_
  refine gx_lload_n hX 2 3 dw_M_label_2 rfl rfl rfl ?_
  refine tr_M_follow hX 6 tw_1288 ⟨Nat.le_of_ble_eq_true rfl, Nat.le_of_ble_eq_true rfl⟩ (Nat.le_of_ble_eq_true rfl) dw_M_label_3 rfl (fun σ1 r2 => ?_)
  refine gx_istore hX [(5, .int r2), (0, .ref (ob 0)), (1, .int L1), (2, .long L2), (4, .int L4)] 8 dw_M_label_6 (by decide) rfl rfl ?_
  refine gx_iload hX 0 10 dw_M_label_8 rfl rfl ?_
  refine gx_if_lt hX 29 13 dw_M_label_10 (by decide) rfl (fun _ => ?_) (fun _ => ?_)
  · refine gx_iconst hX (-1) 30 dw_M_label_29 (by decide) rfl ?_
    exact gx_ret hX dw_M_label_30
  · refine gx_aload_n hX 1 14 dw_M_label_13 rfl rfl rfl ?_
    refine mg_0 hX 4 17 (by decide) tw_912 rfl dw_M_label_14 rfl ?_
    refine gx_iload hX 0 19 dw_M_label_17 rfl rfl ?_
    refine gf_bald (u := md_u ob cI cB cS cZ) hX 2 3 1 20 (show 2 < 52 by decide) rfl rfl dw_M_label_19 rfl (fun r3 => ?_)
    refine gx_iconst hX 4 21 dw_M_label_20 (by decide) rfl ?_
    refine gx_icmp_ne hX 29 24 dw_M_label_21 (by decide) rfl (fun _ => ?_) (fun _ => ?_)
    · refine gx_iconst hX (-1) 30 dw_M_label_29 (by decide) rfl ?_
      exact gx_ret hX dw_M_label_30
    · refine gx_iload hX 4 26 dw_M_label_24 rfl rfl ?_
      refine gx_if_ge hX 31 29 dw_M_label_26 (by decide) rfl (fun _ => ?_) (fun _ => ?_)
      · refine gx_aload_n hX 1 32 dw_M_label_31 rfl rfl rfl ?_
        refine gx_iload hX 0 34 dw_M_label_32 rfl rfl ?_
        refine gx_iconst hX 0 35 dw_M_label_34 (by decide) rfl ?_
        exact gx_none
      · refine gx_iconst hX (-1) 30 dw_M_label_29 (by decide) rfl ?_
        exact gx_ret hX dw_M_label_30
def my_M_label : MethodName := ⟨"TypeLoomModel", "label", "(IJI)I"⟩
theorem hy_M_label : (my_M_label.cls ≠ "java/lang/invoke/MethodHandle" ∧ my_M_label.cls ≠ "java/lang/invoke/VarHandle") ∧ (parseMethodDescriptor my_M_label.desc).map (fun d => d.parameters.length) = some 3 := by decide +kernel
theorem tm_M_label {D : va_G} {ob : Nat → Nat} {cI cB cS cZ : ClassId} (l : Launch) (σ : gx_S) (L1 : Int32) (L2 : Int64) (L4 : Int32) : gx_C l (md_V D ob cI cB cS cZ) my_M_label prog_11_method_48_code 7 (some .int) 2 47 [.ref (ob 0), .int L1, .long L2, .int L4] σ (km_M_label σ L1 L2 L4) := gx_met (by decide) rfl (Nat.le_of_ble_eq_true rfl) rfl (fun X _ hX => tl_M_label hX σ L1 L2 L4)
theorem tr_M_label {D : va_G} {ob : Nat → Nat} {cI cB cS cZ : ClassId} {X : gx_X} {cc : ByteArray} {own : String} {nL fr lo : Nat} {rt : Option FieldType} {σ : gx_S} {pc : Nat} {lv : List (Nat × Value)} {st : List Value} (hX : gx_K (md_V D ob cI cB cS cZ) X cc own nL fr lo rt) {idx : Nat} {L1 : Int32} {L2 : Int64} {L4 : Int32} {k : gx_S → Int32 → gx_R} (n : Nat) (hlink : Cond.methodLink own idx ({ cls := "TypeLoomModel", name := "label", desc := "(IJI)I" } : Jvm.MethodName) ∈ gx_T) (hroom : 2 + 1 ≤ fr ∧ 8 + (7 + 11) + 47 ≤ lo) (hst : (st.map fun v => v.category).sum ≤ 8) (hd : decode cc pc = .ok (.invokevirtual idx, 3)) (hn : pc + 3 = n) (kk : ∀ σ' r, gx_G (md_V D ob cI cB cS cZ) X (k σ' r) σ' n lv (.int r :: st)) : gx_G (md_V D ob cI cB cS cZ) X (gx_bd (km_M_label σ L1 L2 L4) k) σ pc lv (.int L4 :: .long L2 :: .int L1 :: .ref (ob 0) :: st) :=
  gx_callI hX [.int L1, .long L2, .int L4] n rfl (tm_M_label _ σ L1 L2 L4) hy_M_label tw_1320 hlink tw_1318 tw_1319 tw_79 (gf_recv 0 (show 0 < 1 by decide) rfl rfl) hroom hst hd hn rfl (fun σ' r _ => kk σ' r)
def km_M_scheme (σ : gx_S) (L1 : Int32) : gx_R :=
  gx_bd (km_M_isType σ L1) (fun σ1 r2 =>
  if r2 = 0 then
    some (σ1, (-1))
  else
    none)
set_option maxRecDepth 100000 in
set_option maxHeartbeats 4000000 in
theorem tl_M_scheme {D : va_G} {ob : Nat → Nat} {cI cB cS cZ : ClassId} {X : gx_X} (hX : gx_K (md_V D ob cI cB cS cZ) X prog_11_method_52_code "TypeLoomModel" 9 1 21 (some .int)) (σ : gx_S) (L1 : Int32) : gx_G (md_V D ob cI cB cS cZ) X (km_M_scheme σ L1) σ 0 [(0, .ref (ob 0)), (1, .int L1)] [] := by
  unfold km_M_scheme
  refine gx_aload_n hX 0 1 dw_M_scheme_0 rfl rfl rfl ?_
  refine gx_iload_n hX 1 2 dw_M_scheme_1 rfl rfl rfl ?_
  refine tr_M_isType hX 5 tw_1140 ⟨Nat.le_of_ble_eq_true rfl, Nat.le_of_ble_eq_true rfl⟩ (Nat.le_of_ble_eq_true rfl) dw_M_scheme_2 rfl (fun σ1 r2 => ?_)
  refine gx_if_eq hX 20 8 dw_M_scheme_5 (by decide) rfl (fun _ => ?_) (fun _ => ?_)
  · refine gx_iconst hX (-1) 21 dw_M_scheme_20 (by decide) rfl ?_
    exact gx_ret hX dw_M_scheme_21
  · refine gx_aload_n hX 0 9 dw_M_scheme_8 rfl rfl rfl ?_
    refine gx_aload_n hX 0 10 dw_M_scheme_9 rfl rfl rfl ?_
    refine gx_iload_n hX 1 11 dw_M_scheme_10 rfl rfl rfl ?_
    exact gx_none
def my_M_scheme : MethodName := ⟨"TypeLoomModel", "scheme", "(I)I"⟩
theorem hy_M_scheme : (my_M_scheme.cls ≠ "java/lang/invoke/MethodHandle" ∧ my_M_scheme.cls ≠ "java/lang/invoke/VarHandle") ∧ (parseMethodDescriptor my_M_scheme.desc).map (fun d => d.parameters.length) = some 1 := by decide +kernel
theorem tm_M_scheme {D : va_G} {ob : Nat → Nat} {cI cB cS cZ : ClassId} (l : Launch) (σ : gx_S) (L1 : Int32) : gx_C l (md_V D ob cI cB cS cZ) my_M_scheme prog_11_method_52_code 9 (some .int) 1 21 [.ref (ob 0), .int L1] σ (km_M_scheme σ L1) := gx_met (by decide) rfl (Nat.le_of_ble_eq_true rfl) rfl (fun X _ hX => tl_M_scheme hX σ L1)
theorem tr_M_scheme {D : va_G} {ob : Nat → Nat} {cI cB cS cZ : ClassId} {X : gx_X} {cc : ByteArray} {own : String} {nL fr lo : Nat} {rt : Option FieldType} {σ : gx_S} {pc : Nat} {lv : List (Nat × Value)} {st : List Value} (hX : gx_K (md_V D ob cI cB cS cZ) X cc own nL fr lo rt) {idx : Nat} {L1 : Int32} {k : gx_S → Int32 → gx_R} (n : Nat) (hlink : Cond.methodLink own idx ({ cls := "TypeLoomModel", name := "scheme", desc := "(I)I" } : Jvm.MethodName) ∈ gx_T) (hroom : 1 + 1 ≤ fr ∧ 8 + (9 + 11) + 21 ≤ lo) (hst : (st.map fun v => v.category).sum ≤ 8) (hd : decode cc pc = .ok (.invokevirtual idx, 3)) (hn : pc + 3 = n) (kk : ∀ σ' r, gx_G (md_V D ob cI cB cS cZ) X (k σ' r) σ' n lv (.int r :: st)) : gx_G (md_V D ob cI cB cS cZ) X (gx_bd (km_M_scheme σ L1) k) σ pc lv (.int L1 :: .ref (ob 0) :: st) :=
  gx_callI hX [.int L1] n rfl (tm_M_scheme _ σ L1) hy_M_scheme tw_1324 hlink tw_1322 tw_1323 tw_79 (gf_recv 0 (show 0 < 1 by decide) rfl rfl) hroom hst hd hn rfl (fun σ' r _ => kk σ' r)
def km_M_quantified (σ : gx_S) (L1 : Int32) (L2 : Int32) : gx_R :=
  gx_bd (km_M_isScheme σ L1) (fun σ1 r2 =>
  if r2 = 0 then
    some (σ1, (-1))
  else
    if L2 = 0 then
      gx_ld σ1 23 2048 L1 (fun r5 =>
      some (σ1, r5))
    else
      if L2 = 1 then
        gx_ld σ1 25 2048 L1 (fun r4 =>
        if r4 = 0 then
          some (σ1, 0)
        else
          some (σ1, 1))
      else
        if L2 = 2 then
          gx_ld σ1 24 2048 L1 (fun r3 =>
          some (σ1, r3))
        else
          some (σ1, (-1)))
set_option maxRecDepth 100000 in
set_option maxHeartbeats 4000000 in
theorem tl_M_quantified {D : va_G} {ob : Nat → Nat} {cI cB cS cZ : ClassId} {X : gx_X} (hX : gx_K (md_V D ob cI cB cS cZ) X prog_11_method_55_code "TypeLoomModel" 3 1 21 (some .int)) (σ : gx_S) (L1 : Int32) (L2 : Int32) : gx_G (md_V D ob cI cB cS cZ) X (km_M_quantified σ L1 L2) σ 0 [(0, .ref (ob 0)), (1, .int L1), (2, .int L2)] [] := by
  unfold km_M_quantified
  refine gx_aload_n hX 0 1 dw_M_quantified_0 rfl rfl rfl ?_
  refine gx_iload_n hX 1 2 dw_M_quantified_1 rfl rfl rfl ?_
  refine tr_M_isScheme hX 5 tw_1345 ⟨Nat.le_of_ble_eq_true rfl, Nat.le_of_ble_eq_true rfl⟩ (Nat.le_of_ble_eq_true rfl) dw_M_quantified_2 rfl (fun σ1 r2 => ?_)
  refine gx_if_ne hX 10 8 dw_M_quantified_5 (by decide) rfl (fun _ => ?_) (fun _ => ?_)
  · refine gx_iload_n hX 2 11 dw_M_quantified_10 rfl rfl rfl ?_
    refine gx_if_ne hX 23 14 dw_M_quantified_11 (by decide) rfl (fun _ => ?_) (fun _ => ?_)
    · refine gx_iload_n hX 2 24 dw_M_quantified_23 rfl rfl rfl ?_
      refine gx_iconst hX 1 25 dw_M_quantified_24 (by decide) rfl ?_
      refine gx_icmp_ne hX 45 28 dw_M_quantified_25 (by decide) rfl (fun _ => ?_) (fun _ => ?_)
      · refine gx_iload_n hX 2 46 dw_M_quantified_45 rfl rfl rfl ?_
        refine gx_iconst hX 2 47 dw_M_quantified_46 (by decide) rfl ?_
        refine gx_icmp_ne hX 59 50 dw_M_quantified_47 (by decide) rfl (fun _ => ?_) (fun _ => ?_)
        · refine gx_iconst hX (-1) 60 dw_M_quantified_59 (by decide) rfl ?_
          exact gx_ret hX dw_M_quantified_60
        · refine gx_aload_n hX 0 51 dw_M_quantified_50 rfl rfl rfl ?_
          refine mg_0 hX 33 54 (by decide) tw_941 rfl dw_M_quantified_51 rfl ?_
          refine gx_iload_n hX 1 55 dw_M_quantified_54 rfl rfl rfl ?_
          refine gf_iald (u := md_u ob cI cB cS cZ) hX 24 25 0 56 (show 24 < 52 by decide) rfl rfl dw_M_quantified_55 rfl (fun r3 => ?_)
          refine gx_goto hX 60 dw_M_quantified_56 (by decide) ?_
          exact gx_ret hX dw_M_quantified_60
      · refine gx_aload_n hX 0 29 dw_M_quantified_28 rfl rfl rfl ?_
        refine mg_0 hX 34 32 (by decide) tw_942 rfl dw_M_quantified_29 rfl ?_
        refine gx_iload_n hX 1 33 dw_M_quantified_32 rfl rfl rfl ?_
        refine gf_zald (u := md_u ob cI cB cS cZ) hX 25 26 3 34 (show 25 < 52 by decide) rfl rfl dw_M_quantified_33 rfl (fun r4 => ?_)
        refine gx_if_eq hX 41 37 dw_M_quantified_34 (by decide) rfl (fun _ => ?_) (fun _ => ?_)
        · refine gx_iconst hX 0 42 dw_M_quantified_41 (by decide) rfl ?_
          refine gx_goto hX 60 dw_M_quantified_42 (by decide) ?_
          exact gx_ret hX dw_M_quantified_60
        · refine gx_iconst hX 1 38 dw_M_quantified_37 (by decide) rfl ?_
          refine gx_goto hX 60 dw_M_quantified_38 (by decide) ?_
          exact gx_ret hX dw_M_quantified_60
    · refine gx_aload_n hX 0 15 dw_M_quantified_14 rfl rfl rfl ?_
      refine mg_0 hX 32 18 (by decide) tw_940 rfl dw_M_quantified_15 rfl ?_
      refine gx_iload_n hX 1 19 dw_M_quantified_18 rfl rfl rfl ?_
      refine gf_iald (u := md_u ob cI cB cS cZ) hX 23 24 0 20 (show 23 < 52 by decide) rfl rfl dw_M_quantified_19 rfl (fun r5 => ?_)
      refine gx_goto hX 60 dw_M_quantified_20 (by decide) ?_
      exact gx_ret hX dw_M_quantified_60
  · refine gx_iconst hX (-1) 9 dw_M_quantified_8 (by decide) rfl ?_
    exact gx_ret hX dw_M_quantified_9
def my_M_quantified : MethodName := ⟨"TypeLoomModel", "quantified", "(II)I"⟩
theorem hy_M_quantified : (my_M_quantified.cls ≠ "java/lang/invoke/MethodHandle" ∧ my_M_quantified.cls ≠ "java/lang/invoke/VarHandle") ∧ (parseMethodDescriptor my_M_quantified.desc).map (fun d => d.parameters.length) = some 2 := by decide +kernel
theorem tm_M_quantified {D : va_G} {ob : Nat → Nat} {cI cB cS cZ : ClassId} (l : Launch) (σ : gx_S) (L1 : Int32) (L2 : Int32) : gx_C l (md_V D ob cI cB cS cZ) my_M_quantified prog_11_method_55_code 3 (some .int) 1 21 [.ref (ob 0), .int L1, .int L2] σ (km_M_quantified σ L1 L2) := gx_met (by decide) rfl (Nat.le_of_ble_eq_true rfl) rfl (fun X _ hX => tl_M_quantified hX σ L1 L2)
theorem tr_M_quantified {D : va_G} {ob : Nat → Nat} {cI cB cS cZ : ClassId} {X : gx_X} {cc : ByteArray} {own : String} {nL fr lo : Nat} {rt : Option FieldType} {σ : gx_S} {pc : Nat} {lv : List (Nat × Value)} {st : List Value} (hX : gx_K (md_V D ob cI cB cS cZ) X cc own nL fr lo rt) {idx : Nat} {L1 : Int32} {L2 : Int32} {k : gx_S → Int32 → gx_R} (n : Nat) (hlink : Cond.methodLink own idx ({ cls := "TypeLoomModel", name := "quantified", desc := "(II)I" } : Jvm.MethodName) ∈ gx_T) (hroom : 1 + 1 ≤ fr ∧ 8 + (3 + 11) + 21 ≤ lo) (hst : (st.map fun v => v.category).sum ≤ 8) (hd : decode cc pc = .ok (.invokevirtual idx, 3)) (hn : pc + 3 = n) (kk : ∀ σ' r, gx_G (md_V D ob cI cB cS cZ) X (k σ' r) σ' n lv (.int r :: st)) : gx_G (md_V D ob cI cB cS cZ) X (gx_bd (km_M_quantified σ L1 L2) k) σ pc lv (.int L2 :: .int L1 :: .ref (ob 0) :: st) :=
  gx_callI hX [.int L1, .int L2] n rfl (tm_M_quantified _ σ L1 L2) hy_M_quantified tw_1344 hlink tw_1342 tw_1343 tw_79 (gf_recv 0 (show 0 < 1 by decide) rfl rfl) hroom hst hd hn rfl (fun σ' r _ => kk σ' r)
def km_M_instance (σ : gx_S) (L1 : Int32) : gx_R :=
  gx_bd (km_M_isScheme σ L1) (fun σ1 r2 =>
  if r2 = 0 then
    some (σ1, (-1))
  else
    gx_ld σ1 22 2049 L1 (fun r3 =>
    gx_ld σ1 22 2049 ((L1 + 1)) (fun r4 =>
    gx_bv ((r4 - r3)) (fun x5 =>
    gx_jn (fun (σ6 : gx_S) (L2 : Int32) (L3 : Int32) (L4 : Int32) =>
      gx_ld σ6 28 16386 ((L2 + L3)) (fun r7 =>
      gx_ld σ6 28 16386 L2 (fun r8 =>
      gx_bv ((r7 - r8)) (fun x9 =>
      if L3 = 0 then
        some (σ6, (-2))
      else
        if 24576 < (((σ6.1 1)) + L4) then
          some (σ6, (-2))
        else
          if (((σ6.1 2)) + x9) ≤ 65536 then
            gx_jn (fun (σ10 : gx_S) (L3 : Int32) =>
              gx_ld σ10 50 24576 ((L3 - 1)) (fun r11 =>
              some (σ10, r11))) (fun j174 =>
            gx_lp (α := gx_S → Int32 → Int32 → Int32 → gx_R) (fun _ _ _ _ => none) (fun again122 (σ12 : gx_S) (L2 : Int32) (L3 : Int32) (L6 : Int32) =>
              if L3 ≤ L6 then
              j174 σ12 L3
            else
              gx_ld σ12 26 16386 ((L2 + L6)) (fun r13 =>
              gx_jn (fun (σ14 : gx_S) (L2 : Int32) (L3 : Int32) (L6 : Int32) (S0 : Int32) (S1 : Int32) =>
                gx_st σ14 50 24576 S1 S0 (fun σ15 =>
                gx_bv (L6 + 1) (fun x16 =>
                again122 σ15 L2 L3 x16))) (fun j167 =>
              if r13 = 1 then
                gx_ld σ12 27 16386 ((L2 + L6)) (fun r17 =>
                j167 σ12 L2 L3 L6 r17 L6)
              else
                none))) gx_F σ6 L2 L3 0)
          else
            some (σ6, (-2)))))) (fun j70 =>
    gx_lp (α := gx_S → Int32 → Int32 → Int32 → Int32 → gx_R) (fun _ _ _ _ _ => none) (fun again34 (σ18 : gx_S) (L2 : Int32) (L3 : Int32) (L4 : Int32) (L5 : Int32) =>
      if (L2 + L3) ≤ L5 then
      j70 σ18 L2 L3 L4
    else
      gx_ld σ18 26 16386 L5 (fun r19 =>
      gx_jn (fun (σ20 : gx_S) (L2 : Int32) (L3 : Int32) (L5 : Int32) (S0 : Int32) =>
        gx_bv (L5 + 1) (fun x21 =>
        again34 σ20 L2 L3 S0 x21)) (fun j62 =>
      if r19 = 1 then
        j62 σ18 L2 L3 L5 L4
      else
        j62 σ18 L2 L3 L5 ((L4 + 1))))) gx_F σ1 r3 x5 0 r3)))))
set_option maxRecDepth 100000 in
set_option maxHeartbeats 4000000 in
theorem tl_M_instance {D : va_G} {ob : Nat → Nat} {cI cB cS cZ : ClassId} {X : gx_X} (hX : gx_K (md_V D ob cI cB cS cZ) X prog_11_method_56_code "TypeLoomModel" 7 1 21 (some .int)) (σ : gx_S) (L1 : Int32) : gx_G (md_V D ob cI cB cS cZ) X (km_M_instance σ L1) σ 0 [(0, .ref (ob 0)), (1, .int L1)] [] := by
  unfold km_M_instance
  refine gx_aload_n hX 0 1 dw_M_instance_0 rfl rfl rfl ?_
  refine gx_iload_n hX 1 2 dw_M_instance_1 rfl rfl rfl ?_
  refine tr_M_isScheme hX 5 tw_1345 ⟨Nat.le_of_ble_eq_true rfl, Nat.le_of_ble_eq_true rfl⟩ (Nat.le_of_ble_eq_true rfl) dw_M_instance_2 rfl (fun σ1 r2 => ?_)
  refine gx_if_ne hX 10 8 dw_M_instance_5 (by decide) rfl (fun _ => ?_) (fun _ => ?_)
  · refine gx_aload_n hX 0 11 dw_M_instance_10 rfl rfl rfl ?_
    refine mg_0 hX 31 14 (by decide) tw_939 rfl dw_M_instance_11 rfl ?_
    refine gx_iload_n hX 1 15 dw_M_instance_14 rfl rfl rfl ?_
    refine gf_iald (u := md_u ob cI cB cS cZ) hX 22 23 0 16 (show 22 < 52 by decide) rfl rfl dw_M_instance_15 rfl (fun r3 => ?_)
    refine gx_istore_n hX [(2, .int r3), (0, .ref (ob 0)), (1, .int L1)] 17 dw_M_instance_16 rfl (by decide) rfl rfl ?_
    refine gx_aload_n hX 1 18 dw_M_instance_17 rfl rfl rfl ?_
    refine mg_0 hX 31 21 (by decide) tw_939 rfl dw_M_instance_18 rfl ?_
    refine gx_iload_n hX 2 22 dw_M_instance_21 rfl rfl rfl ?_
    refine gx_iconst hX 1 23 dw_M_instance_22 (by decide) rfl ?_
    refine gx_iadd hX 24 dw_M_instance_23 rfl ?_
    refine gf_iald (u := md_u ob cI cB cS cZ) hX 22 23 0 25 (show 22 < 52 by decide) rfl rfl dw_M_instance_24 rfl (fun r4 => ?_)
    refine gx_iload_n hX 0 26 dw_M_instance_25 rfl rfl rfl ?_
    refine gx_isub hX 27 dw_M_instance_26 rfl ?_
    refine gx_bvN (fun x5 => ?_)
    refine gx_istore_n hX [(3, .int x5), (2, .int r3), (0, .ref (ob 0)), (1, .int L1)] 28 dw_M_instance_27 rfl (by decide) rfl rfl ?_
    refine gx_iconst hX 0 29 dw_M_instance_28 (by decide) rfl ?_
    refine gx_istore hX [(4, .int 0), (3, .int x5), (2, .int r3), (0, .ref (ob 0)), (1, .int L1)] 31 dw_M_instance_29 (by decide) rfl rfl ?_
    refine gx_iload_n hX 2 32 dw_M_instance_31 rfl rfl rfl ?_
    refine gx_istore hX [(5, .int r3), (4, .int 0), (3, .int x5), (2, .int r3), (0, .ref (ob 0)), (1, .int L1)] 34 dw_M_instance_32 (by decide) rfl rfl ?_
    refine gx_jnI (fun (j : gx_S → Int32 → Int32 → Int32 → gx_R) => ∀ (σ6 : gx_S) (L2 : Int32) (L3 : Int32) (L4 : Int32), gx_G (md_V D ob cI cB cS cZ) X (j σ6 L2 L3 L4) σ6 70 [(0, .ref (ob 0)), (2, .int L2), (3, .int L3), (4, .int L4)] []) (fun σ6 L2 L3 L4 => ?_) (fun j70 h70 => ?_)
    · refine gx_aload_n hX 0 71 dw_M_instance_70 rfl rfl rfl ?_
      refine mg_0 hX 38 74 (by decide) tw_946 rfl dw_M_instance_71 rfl ?_
      refine gx_iload_n hX 1 75 dw_M_instance_74 rfl rfl rfl ?_
      refine gx_iload_n hX 2 76 dw_M_instance_75 rfl rfl rfl ?_
      refine gx_iadd hX 77 dw_M_instance_76 rfl ?_
      refine gf_iald (u := md_u ob cI cB cS cZ) hX 28 29 0 78 (show 28 < 52 by decide) rfl rfl dw_M_instance_77 rfl (fun r7 => ?_)
      refine gx_aload_n hX 0 79 dw_M_instance_78 rfl rfl rfl ?_
      refine mg_0 hX 38 82 (by decide) tw_946 rfl dw_M_instance_79 rfl ?_
      refine gx_iload_n hX 1 83 dw_M_instance_82 rfl rfl rfl ?_
      refine gf_iald (u := md_u ob cI cB cS cZ) hX 28 29 0 84 (show 28 < 52 by decide) rfl rfl dw_M_instance_83 rfl (fun r8 => ?_)
      refine gx_isub hX 85 dw_M_instance_84 rfl ?_
      refine gx_bvN (fun x9 => ?_)
      refine gx_istore hX [(5, .int x9), (0, .ref (ob 0)), (2, .int L2), (3, .int L3), (4, .int L4)] 87 dw_M_instance_85 (by decide) rfl rfl ?_
      refine gx_iload_n hX 3 88 dw_M_instance_87 rfl rfl rfl ?_
      refine gx_if_eq hX 116 91 dw_M_instance_88 (by decide) rfl (fun _ => ?_) (fun _ => ?_)
      · refine gx_bipush hX (-2) 118 dw_M_instance_116 (by decide) rfl ?_
        exact gx_ret hX dw_M_instance_118
      · refine gx_aload_n hX 1 92 dw_M_instance_91 rfl rfl rfl ?_
        refine mg_0 hX 3 95 (by decide) tw_911 rfl dw_M_instance_92 rfl ?_
        refine gx_iload hX 4 97 dw_M_instance_95 rfl rfl ?_
        refine gx_iadd hX 98 dw_M_instance_97 rfl ?_
        refine gx_sipush hX 24576 101 dw_M_instance_98 (by decide) rfl ?_
        refine gx_icmp_gt hX 116 104 dw_M_instance_101 (by decide) rfl (fun _ => ?_) (fun _ => ?_)
        · refine gx_bipush hX (-2) 118 dw_M_instance_116 (by decide) rfl ?_
          exact gx_ret hX dw_M_instance_118
        · refine gx_aload_n hX 1 105 dw_M_instance_104 rfl rfl rfl ?_
          refine mg_0 hX 13 108 (by decide) tw_921 rfl dw_M_instance_105 rfl ?_
          refine gx_iload hX 0 110 dw_M_instance_108 rfl rfl ?_
          refine gx_iadd hX 111 dw_M_instance_110 rfl ?_
          refine gx_ldc hX 65536 113 dw_M_instance_111 tw_904 rfl ?_
          refine gx_icmp_le hX 119 116 dw_M_instance_113 (by decide) rfl (fun _ => ?_) (fun _ => ?_)
          · refine gx_iconst hX 0 120 dw_M_instance_119 (by decide) rfl ?_
            refine gx_istore hX [(6, .int 0), (5, .int x9), (0, .ref (ob 0)), (2, .int L2), (3, .int L3), (4, .int L4)] 122 dw_M_instance_120 (by decide) rfl rfl ?_
            refine gx_jnI (fun (j : gx_S → Int32 → gx_R) => ∀ (σ10 : gx_S) (L3 : Int32), gx_G (md_V D ob cI cB cS cZ) X (j σ10 L3) σ10 174 [(0, .ref (ob 0)), (3, .int L3)] []) (fun σ10 L3 => ?_) (fun j174 h174 => ?_)
            · refine gx_aload_n hX 0 175 dw_M_instance_174 rfl rfl rfl ?_
              refine mg_0 hX 67 178 (by decide) tw_975 rfl dw_M_instance_175 rfl ?_
              refine gx_iload_n hX 1 179 dw_M_instance_178 rfl rfl rfl ?_
              refine gx_iconst hX 1 180 dw_M_instance_179 (by decide) rfl ?_
              refine gx_isub hX 181 dw_M_instance_180 rfl ?_
              refine gf_iald (u := md_u ob cI cB cS cZ) hX 50 51 0 182 (show 50 < 52 by decide) rfl rfl dw_M_instance_181 rfl (fun r11 => ?_)
              exact gx_ret hX dw_M_instance_182
            refine gx_pick (lv' := [(0, .ref (ob 0)), (2, .int L2), (3, .int L3), (6, .int 0)]) hX [2, 3, 4, 0] rfl (gx_lpI (fun (f : gx_S → Int32 → Int32 → Int32 → gx_R) => ∀ (σ12 : gx_S) (L2 : Int32) (L3 : Int32) (L6 : Int32), gx_G (md_V D ob cI cB cS cZ) X (f σ12 L2 L3 L6) σ12 122 [(0, .ref (ob 0)), (2, .int L2), (3, .int L3), (6, .int L6)] []) (fun _ _ _ _ => gx_none) (fun again122 ih122 σ12 L2 L3 L6 => ?_) _ σ6 L2 L3 0)
            refine gx_iload hX 3 124 dw_M_instance_122 rfl rfl ?_
            refine gx_iload_n hX 2 125 dw_M_instance_124 rfl rfl rfl ?_
            refine gx_icmp_ge hX 174 128 dw_M_instance_125 (by decide) rfl (fun _ => ?_) (fun _ => ?_)
            · exact gx_pick (lv' := [(0, .ref (ob 0)), (3, .int L3)]) hX [0, 2] rfl (h174 σ12 L3)
            · refine gx_aload_n hX 0 129 dw_M_instance_128 rfl rfl rfl ?_
              refine mg_0 hX 67 132 (by decide) tw_975 rfl dw_M_instance_129 rfl ?_
              refine gx_iload hX 3 134 dw_M_instance_132 rfl rfl ?_
              refine gx_aload_n hX 0 135 dw_M_instance_134 rfl rfl rfl ?_
              refine mg_0 hX 36 138 (by decide) tw_944 rfl dw_M_instance_135 rfl ?_
              refine gx_iload_n hX 1 139 dw_M_instance_138 rfl rfl rfl ?_
              refine gx_iload hX 3 141 dw_M_instance_139 rfl rfl ?_
              refine gx_iadd hX 142 dw_M_instance_141 rfl ?_
              refine gf_bald (u := md_u ob cI cB cS cZ) hX 26 27 1 143 (show 26 < 52 by decide) rfl rfl dw_M_instance_142 rfl (fun r13 => ?_)
              refine gx_iconst hX 1 144 dw_M_instance_143 (by decide) rfl ?_
              refine gx_jnI (fun (j : gx_S → Int32 → Int32 → Int32 → Int32 → Int32 → gx_R) => ∀ (σ14 : gx_S) (L2 : Int32) (L3 : Int32) (L6 : Int32) (S0 : Int32) (S1 : Int32), gx_G (md_V D ob cI cB cS cZ) X (j σ14 L2 L3 L6 S0 S1) σ14 167 [(0, .ref (ob 0)), (2, .int L2), (3, .int L3), (6, .int L6)] [.int S0, .int S1, .ref (ob 51)]) (fun σ14 L2 L3 L6 S0 S1 => ?_) (fun j167 h167 => ?_)
              · refine gf_iast (u := md_u ob cI cB cS cZ) hX 50 51 0 168 (show 50 < 52 by decide) rfl rfl (fun _ _ _ => rfl) dw_M_instance_167 rfl (fun σ15 => ?_)
                refine gx_iincN hX (q := 3) (fun x16 => [(6, .int x16), (0, .ref (ob 0)), (2, .int L2), (3, .int L3)]) 171 dw_M_instance_168 rfl rfl (by decide) (fun _ => rfl) rfl (fun x16 => ?_)
                refine gx_goto hX 122 dw_M_instance_171 (by decide) ?_
                exact gx_pick (lv' := [(0, .ref (ob 0)), (2, .int L2), (3, .int L3), (6, .int x16)]) hX [1, 2, 3, 0] rfl (ih122 σ15 L2 L3 x16)
              refine gx_icmp_ne hX 159 147 dw_M_instance_144 (by decide) rfl (fun _ => ?_) (fun _ => ?_)
              · refine gx_aload_n hX 0 160 dw_M_instance_159 rfl rfl rfl ?_
                refine gx_iload_n hX 1 161 dw_M_instance_160 rfl rfl rfl ?_
                refine gx_iload hX 3 163 dw_M_instance_161 rfl rfl ?_
                refine gx_iadd hX 164 dw_M_instance_163 rfl ?_
                exact gx_none
              · refine gx_aload_n hX 0 148 dw_M_instance_147 rfl rfl rfl ?_
                refine mg_0 hX 37 151 (by decide) tw_945 rfl dw_M_instance_148 rfl ?_
                refine gx_iload_n hX 1 152 dw_M_instance_151 rfl rfl rfl ?_
                refine gx_iload hX 3 154 dw_M_instance_152 rfl rfl ?_
                refine gx_iadd hX 155 dw_M_instance_154 rfl ?_
                refine gf_iald (u := md_u ob cI cB cS cZ) hX 27 28 0 156 (show 27 < 52 by decide) rfl rfl dw_M_instance_155 rfl (fun r17 => ?_)
                refine gx_goto hX 167 dw_M_instance_156 (by decide) ?_
                exact gx_pick (lv' := [(0, .ref (ob 0)), (2, .int L2), (3, .int L3), (6, .int L6)]) hX [0, 1, 2, 3] rfl (h167 σ12 L2 L3 L6 r17 L6)
          · refine gx_bipush hX (-2) 118 dw_M_instance_116 (by decide) rfl ?_
            exact gx_ret hX dw_M_instance_118
    refine gx_pick (lv' := [(0, .ref (ob 0)), (2, .int r3), (3, .int x5), (4, .int 0), (5, .int r3)]) hX [4, 3, 2, 1, 0] rfl (gx_lpI (fun (f : gx_S → Int32 → Int32 → Int32 → Int32 → gx_R) => ∀ (σ18 : gx_S) (L2 : Int32) (L3 : Int32) (L4 : Int32) (L5 : Int32), gx_G (md_V D ob cI cB cS cZ) X (f σ18 L2 L3 L4 L5) σ18 34 [(0, .ref (ob 0)), (2, .int L2), (3, .int L3), (4, .int L4), (5, .int L5)] []) (fun _ _ _ _ _ => gx_none) (fun again34 ih34 σ18 L2 L3 L4 L5 => ?_) _ σ1 r3 x5 0 r3)
    refine gx_iload hX 4 36 dw_M_instance_34 rfl rfl ?_
    refine gx_iload_n hX 1 37 dw_M_instance_36 rfl rfl rfl ?_
    refine gx_iload_n hX 2 38 dw_M_instance_37 rfl rfl rfl ?_
    refine gx_iadd hX 39 dw_M_instance_38 rfl ?_
    refine gx_icmp_ge hX 70 42 dw_M_instance_39 (by decide) rfl (fun _ => ?_) (fun _ => ?_)
    · exact gx_pick (lv' := [(0, .ref (ob 0)), (2, .int L2), (3, .int L3), (4, .int L4)]) hX [0, 1, 2, 3] rfl (h70 σ18 L2 L3 L4)
    · refine gx_aload_n hX 0 43 dw_M_instance_42 rfl rfl rfl ?_
      refine mg_0 hX 36 46 (by decide) tw_944 rfl dw_M_instance_43 rfl ?_
      refine gx_iload hX 4 48 dw_M_instance_46 rfl rfl ?_
      refine gf_bald (u := md_u ob cI cB cS cZ) hX 26 27 1 49 (show 26 < 52 by decide) rfl rfl dw_M_instance_48 rfl (fun r19 => ?_)
      refine gx_iconst hX 1 50 dw_M_instance_49 (by decide) rfl ?_
      refine gx_jnI (fun (j : gx_S → Int32 → Int32 → Int32 → Int32 → gx_R) => ∀ (σ20 : gx_S) (L2 : Int32) (L3 : Int32) (L5 : Int32) (S0 : Int32), gx_G (md_V D ob cI cB cS cZ) X (j σ20 L2 L3 L5 S0) σ20 62 [(0, .ref (ob 0)), (2, .int L2), (3, .int L3), (5, .int L5)] [.int S0]) (fun σ20 L2 L3 L5 S0 => ?_) (fun j62 h62 => ?_)
      · refine gx_istore hX [(4, .int S0), (0, .ref (ob 0)), (2, .int L2), (3, .int L3), (5, .int L5)] 64 dw_M_instance_62 (by decide) rfl rfl ?_
        refine gx_iincN hX (q := 4) (fun x21 => [(5, .int x21), (4, .int S0), (0, .ref (ob 0)), (2, .int L2), (3, .int L3)]) 67 dw_M_instance_64 rfl rfl (by decide) (fun _ => rfl) rfl (fun x21 => ?_)
        refine gx_goto hX 34 dw_M_instance_67 (by decide) ?_
        exact gx_pick (lv' := [(0, .ref (ob 0)), (2, .int L2), (3, .int L3), (4, .int S0), (5, .int x21)]) hX [2, 3, 4, 1, 0] rfl (ih34 σ20 L2 L3 S0 x21)
      refine gx_icmp_ne hX 58 53 dw_M_instance_50 (by decide) rfl (fun _ => ?_) (fun _ => ?_)
      · refine gx_iload hX 3 60 dw_M_instance_58 rfl rfl ?_
        refine gx_iconst hX 1 61 dw_M_instance_60 (by decide) rfl ?_
        refine gx_iadd hX 62 dw_M_instance_61 rfl ?_
        exact gx_pick (lv' := [(0, .ref (ob 0)), (2, .int L2), (3, .int L3), (5, .int L5)]) hX [0, 1, 2, 4] rfl (h62 σ18 L2 L3 L5 ((L4 + 1)))
      · refine gx_iload hX 3 55 dw_M_instance_53 rfl rfl ?_
        refine gx_goto hX 62 dw_M_instance_55 (by decide) ?_
        exact gx_pick (lv' := [(0, .ref (ob 0)), (2, .int L2), (3, .int L3), (5, .int L5)]) hX [0, 1, 2, 4] rfl (h62 σ18 L2 L3 L5 L4)
  · refine gx_iconst hX (-1) 9 dw_M_instance_8 (by decide) rfl ?_
    exact gx_ret hX dw_M_instance_9
def my_M_instance : MethodName := ⟨"TypeLoomModel", "instance", "(I)I"⟩
theorem hy_M_instance : (my_M_instance.cls ≠ "java/lang/invoke/MethodHandle" ∧ my_M_instance.cls ≠ "java/lang/invoke/VarHandle") ∧ (parseMethodDescriptor my_M_instance.desc).map (fun d => d.parameters.length) = some 1 := by decide +kernel
theorem tm_M_instance {D : va_G} {ob : Nat → Nat} {cI cB cS cZ : ClassId} (l : Launch) (σ : gx_S) (L1 : Int32) : gx_C l (md_V D ob cI cB cS cZ) my_M_instance prog_11_method_56_code 7 (some .int) 1 21 [.ref (ob 0), .int L1] σ (km_M_instance σ L1) := gx_met (by decide) rfl (Nat.le_of_ble_eq_true rfl) rfl (fun X _ hX => tl_M_instance hX σ L1)
theorem tr_M_instance {D : va_G} {ob : Nat → Nat} {cI cB cS cZ : ClassId} {X : gx_X} {cc : ByteArray} {own : String} {nL fr lo : Nat} {rt : Option FieldType} {σ : gx_S} {pc : Nat} {lv : List (Nat × Value)} {st : List Value} (hX : gx_K (md_V D ob cI cB cS cZ) X cc own nL fr lo rt) {idx : Nat} {L1 : Int32} {k : gx_S → Int32 → gx_R} (n : Nat) (hlink : Cond.methodLink own idx ({ cls := "TypeLoomModel", name := "instance", desc := "(I)I" } : Jvm.MethodName) ∈ gx_T) (hroom : 1 + 1 ≤ fr ∧ 8 + (7 + 11) + 21 ≤ lo) (hst : (st.map fun v => v.category).sum ≤ 8) (hd : decode cc pc = .ok (.invokevirtual idx, 3)) (hn : pc + 3 = n) (kk : ∀ σ' r, gx_G (md_V D ob cI cB cS cZ) X (k σ' r) σ' n lv (.int r :: st)) : gx_G (md_V D ob cI cB cS cZ) X (gx_bd (km_M_instance σ L1) k) σ pc lv (.int L1 :: .ref (ob 0) :: st) :=
  gx_callI hX [.int L1] n rfl (tm_M_instance _ σ L1) hy_M_instance tw_1352 hlink tw_1350 tw_1351 tw_79 (gf_recv 0 (show 0 < 1 by decide) rfl rfl) hroom hst hd hn rfl (fun σ' r _ => kk σ' r)
def km_M_alike (σ : gx_S) (L1 : Int32) (L2 : Int32) : gx_R :=
  gx_bd (km_M_isScheme σ L1) (fun σ1 r2 =>
  if r2 = 0 then
    gx_rz σ1 0
  else
    gx_bd (km_M_isScheme σ1 L2) (fun σ3 r4 =>
    if r4 = 0 then
      gx_rz σ3 0
    else
      gx_ld σ3 25 2048 L1 (fun r5 =>
      if r5 = 0 then
        gx_rz σ3 0
      else
        gx_ld σ3 25 2048 L2 (fun r6 =>
        if r6 = 0 then
          gx_rz σ3 0
        else
          gx_ld σ3 22 2049 L1 (fun r7 =>
          gx_ld σ3 22 2049 L2 (fun r8 =>
          gx_ld σ3 22 2049 ((L1 + 1)) (fun r9 =>
          gx_bv ((r9 - r7)) (fun x10 =>
          gx_ld σ3 22 2049 ((L2 + 1)) (fun r11 =>
          gx_jn (fun (σ12 : gx_S) (L3 : Int32) (L4 : Int32) (L5 : Int32) (S0 : Int32) =>
            gx_lp (α := gx_S → Int32 → Int32 → Int32 → Int32 → Int32 → gx_R) (fun _ _ _ _ _ _ => none) (fun again89 (σ13 : gx_S) (L3 : Int32) (L4 : Int32) (L5 : Int32) (L6 : Int32) (L7 : Int32) =>
              if L5 ≤ L7 then
              gx_rz σ13 L6
            else
              if L6 = 0 then
                gx_rz σ13 L6
              else
                gx_ld σ13 28 16386 ((((L3 + L7)) + 1)) (fun r14 =>
                gx_ld σ13 28 16386 ((L3 + L7)) (fun r15 =>
                gx_bv ((r14 - r15)) (fun x16 =>
                gx_ld σ13 26 16386 ((L3 + L7)) (fun r17 =>
                gx_ld σ13 26 16386 ((L4 + L7)) (fun r18 =>
                gx_jn (fun (σ19 : gx_S) (L3 : Int32) (L4 : Int32) (L5 : Int32) (L7 : Int32) (L8 : Int32) (S0 : Int32) =>
                  gx_jn (fun (σ20 : gx_S) (L3 : Int32) (L4 : Int32) (L5 : Int32) (L6 : Int32) (L7 : Int32) =>
                    gx_bv (L7 + 1) (fun x21 =>
                    again89 σ20 L3 L4 L5 L6 x21)) (fun j341 =>
                  gx_lp (α := gx_S → Int32 → Int32 → Int32 → Int32 → Int32 → Int32 → Int32 → gx_R) (fun _ _ _ _ _ _ _ _ => none) (fun again240 (σ22 : gx_S) (L3 : Int32) (L4 : Int32) (L5 : Int32) (L6 : Int32) (L7 : Int32) (L8 : Int32) (L9 : Int32) =>
                    if L8 ≤ L9 then
                    j341 σ22 L3 L4 L5 L6 L7
                  else
                    if L6 = 0 then
                      j341 σ22 L3 L4 L5 L6 L7
                    else
                      gx_ld σ22 28 16386 ((L3 + L7)) (fun r23 =>
                      gx_ld σ22 30 32900 ((r23 + L9)) (fun r24 =>
                      gx_ld σ22 28 16386 ((L4 + L7)) (fun r25 =>
                      gx_ld σ22 30 32900 ((r25 + L9)) (fun r26 =>
                      gx_jn (fun (σ27 : gx_S) (L3 : Int32) (L4 : Int32) (L5 : Int32) (L7 : Int32) (L8 : Int32) (L9 : Int32) (S0 : Int32) =>
                        gx_bv (L9 + 1) (fun x28 =>
                        again240 σ27 L3 L4 L5 S0 L7 L8 x28)) (fun j333 =>
                      gx_jn (fun (σ29 : gx_S) (L3 : Int32) (L4 : Int32) (L5 : Int32) (L7 : Int32) (L8 : Int32) (L9 : Int32) =>
                        j333 σ29 L3 L4 L5 L7 L8 L9 0) (fun j332 =>
                      if r24 = r26 then
                        gx_ld σ22 28 16386 ((L3 + L7)) (fun r30 =>
                        gx_ld σ22 31 32900 ((r30 + L9)) (fun r31 =>
                        gx_ld σ22 28 16386 ((L4 + L7)) (fun r32 =>
                        gx_ld σ22 31 32900 ((r32 + L9)) (fun r33 =>
                        if r31 = r33 then
                          j333 σ22 L3 L4 L5 L7 L8 L9 1
                        else
                          j332 σ22 L3 L4 L5 L7 L8 L9))))
                      else
                        j332 σ22 L3 L4 L5 L7 L8 L9))))))) gx_F σ19 L3 L4 L5 S0 L7 L8 0)) (fun j235 =>
                gx_jn (fun (σ34 : gx_S) (L3 : Int32) (L4 : Int32) (L5 : Int32) (L7 : Int32) (L8 : Int32) =>
                  j235 σ34 L3 L4 L5 L7 L8 0) (fun j234 =>
                if r17 = r18 then
                  gx_ld σ13 27 16386 ((L3 + L7)) (fun r35 =>
                  gx_ld σ13 27 16386 ((L4 + L7)) (fun r36 =>
                  if r35 = r36 then
                    gx_ld σ13 28 16386 ((((L4 + L7)) + 1)) (fun r37 =>
                    gx_ld σ13 28 16386 ((L4 + L7)) (fun r38 =>
                    if (r37 - r38) = x16 then
                      gx_ld σ13 26 16386 ((L3 + L7)) (fun r39 =>
                      gx_jn (fun (σ40 : gx_S) (L3 : Int32) (L4 : Int32) (L5 : Int32) (L7 : Int32) (L8 : Int32) =>
                        j235 σ40 L3 L4 L5 L7 L8 1) (fun j230 =>
                      if r39 = 0 then
                        gx_ld σ13 51 16385 ((L3 + L7)) (fun r41 =>
                        gx_ld σ13 51 16385 ((L4 + L7)) (fun r42 =>
                        if r41 = r42 then
                          j230 σ13 L3 L4 L5 L7 x16
                        else
                          j234 σ13 L3 L4 L5 L7 x16))
                      else
                        j230 σ13 L3 L4 L5 L7 x16))
                    else
                      j234 σ13 L3 L4 L5 L7 x16))
                  else
                    j234 σ13 L3 L4 L5 L7 x16))
                else
                  j234 σ13 L3 L4 L5 L7 x16)))))))) gx_F σ12 L3 L4 L5 S0 0) (fun j84 =>
          if (r11 - r8) = x10 then
            j84 σ3 r7 r8 x10 1
          else
            j84 σ3 r7 r8 x10 0))))))))))
set_option maxRecDepth 100000 in
set_option maxHeartbeats 4000000 in
theorem tl_M_alike {D : va_G} {ob : Nat → Nat} {cI cB cS cZ : ClassId} {X : gx_X} (hX : gx_K (md_V D ob cI cB cS cZ) X prog_11_method_58_code "TypeLoomModel" 10 1 21 (some .boolean)) (σ : gx_S) (L1 : Int32) (L2 : Int32) : gx_G (md_V D ob cI cB cS cZ) X (km_M_alike σ L1 L2) σ 0 [(0, .ref (ob 0)), (1, .int L1), (2, .int L2)] [] := by
  unfold km_M_alike
  refine gx_aload_n hX 0 1 dw_M_alike_0 rfl rfl rfl ?_
  refine gx_iload_n hX 1 2 dw_M_alike_1 rfl rfl rfl ?_
  refine tr_M_isScheme hX 5 tw_1345 ⟨Nat.le_of_ble_eq_true rfl, Nat.le_of_ble_eq_true rfl⟩ (Nat.le_of_ble_eq_true rfl) dw_M_alike_2 rfl (fun σ1 r2 => ?_)
  refine gx_if_eq hX 34 8 dw_M_alike_5 (by decide) rfl (fun _ => ?_) (fun _ => ?_)
  · refine gx_iconst hX 0 35 dw_M_alike_34 (by decide) rfl ?_
    exact gx_retz hX dw_M_alike_35
  · refine gx_aload_n hX 0 9 dw_M_alike_8 rfl rfl rfl ?_
    refine gx_iload_n hX 2 10 dw_M_alike_9 rfl rfl rfl ?_
    refine tr_M_isScheme hX 13 tw_1345 ⟨Nat.le_of_ble_eq_true rfl, Nat.le_of_ble_eq_true rfl⟩ (Nat.le_of_ble_eq_true rfl) dw_M_alike_10 rfl (fun σ3 r4 => ?_)
    refine gx_if_eq hX 34 16 dw_M_alike_13 (by decide) rfl (fun _ => ?_) (fun _ => ?_)
    · refine gx_iconst hX 0 35 dw_M_alike_34 (by decide) rfl ?_
      exact gx_retz hX dw_M_alike_35
    · refine gx_aload_n hX 0 17 dw_M_alike_16 rfl rfl rfl ?_
      refine mg_0 hX 34 20 (by decide) tw_942 rfl dw_M_alike_17 rfl ?_
      refine gx_iload_n hX 1 21 dw_M_alike_20 rfl rfl rfl ?_
      refine gf_zald (u := md_u ob cI cB cS cZ) hX 25 26 3 22 (show 25 < 52 by decide) rfl rfl dw_M_alike_21 rfl (fun r5 => ?_)
      refine gx_if_eq hX 34 25 dw_M_alike_22 (by decide) rfl (fun _ => ?_) (fun _ => ?_)
      · refine gx_iconst hX 0 35 dw_M_alike_34 (by decide) rfl ?_
        exact gx_retz hX dw_M_alike_35
      · refine gx_aload_n hX 0 26 dw_M_alike_25 rfl rfl rfl ?_
        refine mg_0 hX 34 29 (by decide) tw_942 rfl dw_M_alike_26 rfl ?_
        refine gx_iload_n hX 2 30 dw_M_alike_29 rfl rfl rfl ?_
        refine gf_zald (u := md_u ob cI cB cS cZ) hX 25 26 3 31 (show 25 < 52 by decide) rfl rfl dw_M_alike_30 rfl (fun r6 => ?_)
        refine gx_if_ne hX 36 34 dw_M_alike_31 (by decide) rfl (fun _ => ?_) (fun _ => ?_)
        · refine gx_aload_n hX 0 37 dw_M_alike_36 rfl rfl rfl ?_
          refine mg_0 hX 31 40 (by decide) tw_939 rfl dw_M_alike_37 rfl ?_
          refine gx_iload_n hX 1 41 dw_M_alike_40 rfl rfl rfl ?_
          refine gf_iald (u := md_u ob cI cB cS cZ) hX 22 23 0 42 (show 22 < 52 by decide) rfl rfl dw_M_alike_41 rfl (fun r7 => ?_)
          refine gx_istore_n hX [(3, .int r7), (0, .ref (ob 0)), (1, .int L1), (2, .int L2)] 43 dw_M_alike_42 rfl (by decide) rfl rfl ?_
          refine gx_aload_n hX 1 44 dw_M_alike_43 rfl rfl rfl ?_
          refine mg_0 hX 31 47 (by decide) tw_939 rfl dw_M_alike_44 rfl ?_
          refine gx_iload_n hX 3 48 dw_M_alike_47 rfl rfl rfl ?_
          refine gf_iald (u := md_u ob cI cB cS cZ) hX 22 23 0 49 (show 22 < 52 by decide) rfl rfl dw_M_alike_48 rfl (fun r8 => ?_)
          refine gx_istore hX [(4, .int r8), (3, .int r7), (0, .ref (ob 0)), (1, .int L1), (2, .int L2)] 51 dw_M_alike_49 (by decide) rfl rfl ?_
          refine gx_aload_n hX 2 52 dw_M_alike_51 rfl rfl rfl ?_
          refine mg_0 hX 31 55 (by decide) tw_939 rfl dw_M_alike_52 rfl ?_
          refine gx_iload_n hX 3 56 dw_M_alike_55 rfl rfl rfl ?_
          refine gx_iconst hX 1 57 dw_M_alike_56 (by decide) rfl ?_
          refine gx_iadd hX 58 dw_M_alike_57 rfl ?_
          refine gf_iald (u := md_u ob cI cB cS cZ) hX 22 23 0 59 (show 22 < 52 by decide) rfl rfl dw_M_alike_58 rfl (fun r9 => ?_)
          refine gx_iload_n hX 1 60 dw_M_alike_59 rfl rfl rfl ?_
          refine gx_isub hX 61 dw_M_alike_60 rfl ?_
          refine gx_bvN (fun x10 => ?_)
          refine gx_istore hX [(5, .int x10), (4, .int r8), (3, .int r7), (0, .ref (ob 0)), (1, .int L1), (2, .int L2)] 63 dw_M_alike_61 (by decide) rfl rfl ?_
          refine gx_aload_n hX 3 64 dw_M_alike_63 rfl rfl rfl ?_
          refine mg_0 hX 31 67 (by decide) tw_939 rfl dw_M_alike_64 rfl ?_
          refine gx_iload_n hX 5 68 dw_M_alike_67 rfl rfl rfl ?_
          refine gx_iconst hX 1 69 dw_M_alike_68 (by decide) rfl ?_
          refine gx_iadd hX 70 dw_M_alike_69 rfl ?_
          refine gf_iald (u := md_u ob cI cB cS cZ) hX 22 23 0 71 (show 22 < 52 by decide) rfl rfl dw_M_alike_70 rfl (fun r11 => ?_)
          refine gx_iload hX 1 73 dw_M_alike_71 rfl rfl ?_
          refine gx_isub hX 74 dw_M_alike_73 rfl ?_
          refine gx_iload hX 0 76 dw_M_alike_74 rfl rfl ?_
          refine gx_jnI (fun (j : gx_S → Int32 → Int32 → Int32 → Int32 → gx_R) => ∀ (σ12 : gx_S) (L3 : Int32) (L4 : Int32) (L5 : Int32) (S0 : Int32), gx_G (md_V D ob cI cB cS cZ) X (j σ12 L3 L4 L5 S0) σ12 84 [(0, .ref (ob 0)), (3, .int L3), (4, .int L4), (5, .int L5)] [.int S0]) (fun σ12 L3 L4 L5 S0 => ?_) (fun j84 h84 => ?_)
          · refine gx_istore hX [(6, .int S0), (0, .ref (ob 0)), (3, .int L3), (4, .int L4), (5, .int L5)] 86 dw_M_alike_84 (by decide) rfl rfl ?_
            refine gx_iconst hX 0 87 dw_M_alike_86 (by decide) rfl ?_
            refine gx_istore hX [(7, .int 0), (6, .int S0), (0, .ref (ob 0)), (3, .int L3), (4, .int L4), (5, .int L5)] 89 dw_M_alike_87 (by decide) rfl rfl ?_
            refine gx_pick (lv' := [(0, .ref (ob 0)), (3, .int L3), (4, .int L4), (5, .int L5), (6, .int S0), (7, .int 0)]) hX [2, 3, 4, 5, 1, 0] rfl (gx_lpI (fun (f : gx_S → Int32 → Int32 → Int32 → Int32 → Int32 → gx_R) => ∀ (σ13 : gx_S) (L3 : Int32) (L4 : Int32) (L5 : Int32) (L6 : Int32) (L7 : Int32), gx_G (md_V D ob cI cB cS cZ) X (f σ13 L3 L4 L5 L6 L7) σ13 89 [(0, .ref (ob 0)), (3, .int L3), (4, .int L4), (5, .int L5), (6, .int L6), (7, .int L7)] []) (fun _ _ _ _ _ _ => gx_none) (fun again89 ih89 σ13 L3 L4 L5 L6 L7 => ?_) _ σ12 L3 L4 L5 S0 0)
            refine gx_iload hX 5 91 dw_M_alike_89 rfl rfl ?_
            refine gx_iload hX 3 93 dw_M_alike_91 rfl rfl ?_
            refine gx_icmp_ge hX 347 96 dw_M_alike_93 (by decide) rfl (fun _ => ?_) (fun _ => ?_)
            · refine gx_iload hX 4 349 dw_M_alike_347 rfl rfl ?_
              exact gx_retz hX dw_M_alike_349
            · refine gx_iload hX 4 98 dw_M_alike_96 rfl rfl ?_
              refine gx_if_eq hX 347 101 dw_M_alike_98 (by decide) rfl (fun _ => ?_) (fun _ => ?_)
              · refine gx_iload hX 4 349 dw_M_alike_347 rfl rfl ?_
                exact gx_retz hX dw_M_alike_349
              · refine gx_aload_n hX 0 102 dw_M_alike_101 rfl rfl rfl ?_
                refine mg_0 hX 38 105 (by decide) tw_946 rfl dw_M_alike_102 rfl ?_
                refine gx_iload_n hX 1 106 dw_M_alike_105 rfl rfl rfl ?_
                refine gx_iload hX 5 108 dw_M_alike_106 rfl rfl ?_
                refine gx_iadd hX 109 dw_M_alike_108 rfl ?_
                refine gx_iconst hX 1 110 dw_M_alike_109 (by decide) rfl ?_
                refine gx_iadd hX 111 dw_M_alike_110 rfl ?_
                refine gf_iald (u := md_u ob cI cB cS cZ) hX 28 29 0 112 (show 28 < 52 by decide) rfl rfl dw_M_alike_111 rfl (fun r14 => ?_)
                refine gx_aload_n hX 0 113 dw_M_alike_112 rfl rfl rfl ?_
                refine mg_0 hX 38 116 (by decide) tw_946 rfl dw_M_alike_113 rfl ?_
                refine gx_iload_n hX 1 117 dw_M_alike_116 rfl rfl rfl ?_
                refine gx_iload hX 5 119 dw_M_alike_117 rfl rfl ?_
                refine gx_iadd hX 120 dw_M_alike_119 rfl ?_
                refine gf_iald (u := md_u ob cI cB cS cZ) hX 28 29 0 121 (show 28 < 52 by decide) rfl rfl dw_M_alike_120 rfl (fun r15 => ?_)
                refine gx_isub hX 122 dw_M_alike_121 rfl ?_
                refine gx_bvN (fun x16 => ?_)
                refine gx_istore hX [(8, .int x16), (0, .ref (ob 0)), (3, .int L3), (4, .int L4), (5, .int L5), (6, .int L6), (7, .int L7)] 124 dw_M_alike_122 (by decide) rfl rfl ?_
                refine gx_aload_n hX 1 125 dw_M_alike_124 rfl rfl rfl ?_
                refine mg_0 hX 36 128 (by decide) tw_944 rfl dw_M_alike_125 rfl ?_
                refine gx_iload_n hX 2 129 dw_M_alike_128 rfl rfl rfl ?_
                refine gx_iload hX 6 131 dw_M_alike_129 rfl rfl ?_
                refine gx_iadd hX 132 dw_M_alike_131 rfl ?_
                refine gf_bald (u := md_u ob cI cB cS cZ) hX 26 27 1 133 (show 26 < 52 by decide) rfl rfl dw_M_alike_132 rfl (fun r17 => ?_)
                refine gx_aload_n hX 1 134 dw_M_alike_133 rfl rfl rfl ?_
                refine mg_0 hX 36 137 (by decide) tw_944 rfl dw_M_alike_134 rfl ?_
                refine gx_iload hX 3 139 dw_M_alike_137 rfl rfl ?_
                refine gx_iload hX 6 141 dw_M_alike_139 rfl rfl ?_
                refine gx_iadd hX 142 dw_M_alike_141 rfl ?_
                refine gf_bald (u := md_u ob cI cB cS cZ) hX 26 27 1 143 (show 26 < 52 by decide) rfl rfl dw_M_alike_142 rfl (fun r18 => ?_)
                refine gx_jnI (fun (j : gx_S → Int32 → Int32 → Int32 → Int32 → Int32 → Int32 → gx_R) => ∀ (σ19 : gx_S) (L3 : Int32) (L4 : Int32) (L5 : Int32) (L7 : Int32) (L8 : Int32) (S0 : Int32), gx_G (md_V D ob cI cB cS cZ) X (j σ19 L3 L4 L5 L7 L8 S0) σ19 235 [(0, .ref (ob 0)), (3, .int L3), (4, .int L4), (5, .int L5), (7, .int L7), (8, .int L8)] [.int S0]) (fun σ19 L3 L4 L5 L7 L8 S0 => ?_) (fun j235 h235 => ?_)
                · refine gx_istore hX [(6, .int S0), (0, .ref (ob 0)), (3, .int L3), (4, .int L4), (5, .int L5), (7, .int L7), (8, .int L8)] 237 dw_M_alike_235 (by decide) rfl rfl ?_
                  refine gx_iconst hX 0 238 dw_M_alike_237 (by decide) rfl ?_
                  refine gx_istore hX [(9, .int 0), (6, .int S0), (0, .ref (ob 0)), (3, .int L3), (4, .int L4), (5, .int L5), (7, .int L7), (8, .int L8)] 240 dw_M_alike_238 (by decide) rfl rfl ?_
                  refine gx_jnI (fun (j : gx_S → Int32 → Int32 → Int32 → Int32 → Int32 → gx_R) => ∀ (σ20 : gx_S) (L3 : Int32) (L4 : Int32) (L5 : Int32) (L6 : Int32) (L7 : Int32), gx_G (md_V D ob cI cB cS cZ) X (j σ20 L3 L4 L5 L6 L7) σ20 341 [(0, .ref (ob 0)), (3, .int L3), (4, .int L4), (5, .int L5), (6, .int L6), (7, .int L7)] []) (fun σ20 L3 L4 L5 L6 L7 => ?_) (fun j341 h341 => ?_)
                  · refine gx_iincN hX (q := 5) (fun x21 => [(7, .int x21), (0, .ref (ob 0)), (3, .int L3), (4, .int L4), (5, .int L5), (6, .int L6)]) 344 dw_M_alike_341 rfl rfl (by decide) (fun _ => rfl) rfl (fun x21 => ?_)
                    refine gx_goto hX 89 dw_M_alike_344 (by decide) ?_
                    exact gx_pick (lv' := [(0, .ref (ob 0)), (3, .int L3), (4, .int L4), (5, .int L5), (6, .int L6), (7, .int x21)]) hX [1, 2, 3, 4, 5, 0] rfl (ih89 σ20 L3 L4 L5 L6 x21)
                  refine gx_pick (lv' := [(0, .ref (ob 0)), (3, .int L3), (4, .int L4), (5, .int L5), (6, .int S0), (7, .int L7), (8, .int L8), (9, .int 0)]) hX [2, 3, 4, 5, 1, 6, 7, 0] rfl (gx_lpI (fun (f : gx_S → Int32 → Int32 → Int32 → Int32 → Int32 → Int32 → Int32 → gx_R) => ∀ (σ22 : gx_S) (L3 : Int32) (L4 : Int32) (L5 : Int32) (L6 : Int32) (L7 : Int32) (L8 : Int32) (L9 : Int32), gx_G (md_V D ob cI cB cS cZ) X (f σ22 L3 L4 L5 L6 L7 L8 L9) σ22 240 [(0, .ref (ob 0)), (3, .int L3), (4, .int L4), (5, .int L5), (6, .int L6), (7, .int L7), (8, .int L8), (9, .int L9)] []) (fun _ _ _ _ _ _ _ _ => gx_none) (fun again240 ih240 σ22 L3 L4 L5 L6 L7 L8 L9 => ?_) _ σ19 L3 L4 L5 S0 L7 L8 0)
                  refine gx_iload hX 7 242 dw_M_alike_240 rfl rfl ?_
                  refine gx_iload hX 6 244 dw_M_alike_242 rfl rfl ?_
                  refine gx_icmp_ge hX 341 247 dw_M_alike_244 (by decide) rfl (fun _ => ?_) (fun _ => ?_)
                  · exact gx_pick (lv' := [(0, .ref (ob 0)), (3, .int L3), (4, .int L4), (5, .int L5), (6, .int L6), (7, .int L7)]) hX [0, 1, 2, 3, 4, 5] rfl (h341 σ22 L3 L4 L5 L6 L7)
                  · refine gx_iload hX 4 249 dw_M_alike_247 rfl rfl ?_
                    refine gx_if_eq hX 341 252 dw_M_alike_249 (by decide) rfl (fun _ => ?_) (fun _ => ?_)
                    · exact gx_pick (lv' := [(0, .ref (ob 0)), (3, .int L3), (4, .int L4), (5, .int L5), (6, .int L6), (7, .int L7)]) hX [0, 1, 2, 3, 4, 5] rfl (h341 σ22 L3 L4 L5 L6 L7)
                    · refine gx_aload_n hX 0 253 dw_M_alike_252 rfl rfl rfl ?_
                      refine mg_0 hX 41 256 (by decide) tw_949 rfl dw_M_alike_253 rfl ?_
                      refine gx_aload_n hX 0 257 dw_M_alike_256 rfl rfl rfl ?_
                      refine mg_0 hX 38 260 (by decide) tw_946 rfl dw_M_alike_257 rfl ?_
                      refine gx_iload_n hX 1 261 dw_M_alike_260 rfl rfl rfl ?_
                      refine gx_iload hX 5 263 dw_M_alike_261 rfl rfl ?_
                      refine gx_iadd hX 264 dw_M_alike_263 rfl ?_
                      refine gf_iald (u := md_u ob cI cB cS cZ) hX 28 29 0 265 (show 28 < 52 by decide) rfl rfl dw_M_alike_264 rfl (fun r23 => ?_)
                      refine gx_iload hX 7 267 dw_M_alike_265 rfl rfl ?_
                      refine gx_iadd hX 268 dw_M_alike_267 rfl ?_
                      refine gf_sald (u := md_u ob cI cB cS cZ) hX 30 31 2 269 (show 30 < 52 by decide) rfl rfl dw_M_alike_268 rfl (fun r24 => ?_)
                      refine gx_aload_n hX 0 270 dw_M_alike_269 rfl rfl rfl ?_
                      refine mg_0 hX 41 273 (by decide) tw_949 rfl dw_M_alike_270 rfl ?_
                      refine gx_aload_n hX 0 274 dw_M_alike_273 rfl rfl rfl ?_
                      refine mg_0 hX 38 277 (by decide) tw_946 rfl dw_M_alike_274 rfl ?_
                      refine gx_iload hX 2 279 dw_M_alike_277 rfl rfl ?_
                      refine gx_iload hX 5 281 dw_M_alike_279 rfl rfl ?_
                      refine gx_iadd hX 282 dw_M_alike_281 rfl ?_
                      refine gf_iald (u := md_u ob cI cB cS cZ) hX 28 29 0 283 (show 28 < 52 by decide) rfl rfl dw_M_alike_282 rfl (fun r25 => ?_)
                      refine gx_iload hX 7 285 dw_M_alike_283 rfl rfl ?_
                      refine gx_iadd hX 286 dw_M_alike_285 rfl ?_
                      refine gf_sald (u := md_u ob cI cB cS cZ) hX 30 31 2 287 (show 30 < 52 by decide) rfl rfl dw_M_alike_286 rfl (fun r26 => ?_)
                      refine gx_jnI (fun (j : gx_S → Int32 → Int32 → Int32 → Int32 → Int32 → Int32 → Int32 → gx_R) => ∀ (σ27 : gx_S) (L3 : Int32) (L4 : Int32) (L5 : Int32) (L7 : Int32) (L8 : Int32) (L9 : Int32) (S0 : Int32), gx_G (md_V D ob cI cB cS cZ) X (j σ27 L3 L4 L5 L7 L8 L9 S0) σ27 333 [(0, .ref (ob 0)), (3, .int L3), (4, .int L4), (5, .int L5), (7, .int L7), (8, .int L8), (9, .int L9)] [.int S0]) (fun σ27 L3 L4 L5 L7 L8 L9 S0 => ?_) (fun j333 h333 => ?_)
                      · refine gx_istore hX [(6, .int S0), (0, .ref (ob 0)), (3, .int L3), (4, .int L4), (5, .int L5), (7, .int L7), (8, .int L8), (9, .int L9)] 335 dw_M_alike_333 (by decide) rfl rfl ?_
                        refine gx_iincN hX (q := 7) (fun x28 => [(9, .int x28), (6, .int S0), (0, .ref (ob 0)), (3, .int L3), (4, .int L4), (5, .int L5), (7, .int L7), (8, .int L8)]) 338 dw_M_alike_335 rfl rfl (by decide) (fun _ => rfl) rfl (fun x28 => ?_)
                        refine gx_goto hX 240 dw_M_alike_338 (by decide) ?_
                        exact gx_pick (lv' := [(0, .ref (ob 0)), (3, .int L3), (4, .int L4), (5, .int L5), (6, .int S0), (7, .int L7), (8, .int L8), (9, .int x28)]) hX [2, 3, 4, 5, 1, 6, 7, 0] rfl (ih240 σ27 L3 L4 L5 S0 L7 L8 x28)
                      refine gx_jnI (fun (j : gx_S → Int32 → Int32 → Int32 → Int32 → Int32 → Int32 → gx_R) => ∀ (σ29 : gx_S) (L3 : Int32) (L4 : Int32) (L5 : Int32) (L7 : Int32) (L8 : Int32) (L9 : Int32), gx_G (md_V D ob cI cB cS cZ) X (j σ29 L3 L4 L5 L7 L8 L9) σ29 332 [(0, .ref (ob 0)), (3, .int L3), (4, .int L4), (5, .int L5), (7, .int L7), (8, .int L8), (9, .int L9)] []) (fun σ29 L3 L4 L5 L7 L8 L9 => ?_) (fun j332 h332 => ?_)
                      · refine gx_iconst hX 0 333 dw_M_alike_332 (by decide) rfl ?_
                        exact gx_pick (lv' := [(0, .ref (ob 0)), (3, .int L3), (4, .int L4), (5, .int L5), (7, .int L7), (8, .int L8), (9, .int L9)]) hX [0, 1, 2, 3, 4, 5, 6] rfl (h333 σ29 L3 L4 L5 L7 L8 L9 0)
                      refine gx_icmp_ne hX 332 290 dw_M_alike_287 (by decide) rfl (fun _ => ?_) (fun _ => ?_)
                      · exact gx_pick (lv' := [(0, .ref (ob 0)), (3, .int L3), (4, .int L4), (5, .int L5), (7, .int L7), (8, .int L8), (9, .int L9)]) hX [0, 1, 2, 3, 5, 6, 7] rfl (h332 σ22 L3 L4 L5 L7 L8 L9)
                      · refine gx_aload_n hX 0 291 dw_M_alike_290 rfl rfl rfl ?_
                        refine mg_0 hX 42 294 (by decide) tw_950 rfl dw_M_alike_291 rfl ?_
                        refine gx_aload_n hX 0 295 dw_M_alike_294 rfl rfl rfl ?_
                        refine mg_0 hX 38 298 (by decide) tw_946 rfl dw_M_alike_295 rfl ?_
                        refine gx_iload_n hX 1 299 dw_M_alike_298 rfl rfl rfl ?_
                        refine gx_iload hX 5 301 dw_M_alike_299 rfl rfl ?_
                        refine gx_iadd hX 302 dw_M_alike_301 rfl ?_
                        refine gf_iald (u := md_u ob cI cB cS cZ) hX 28 29 0 303 (show 28 < 52 by decide) rfl rfl dw_M_alike_302 rfl (fun r30 => ?_)
                        refine gx_iload hX 7 305 dw_M_alike_303 rfl rfl ?_
                        refine gx_iadd hX 306 dw_M_alike_305 rfl ?_
                        refine gf_sald (u := md_u ob cI cB cS cZ) hX 31 32 2 307 (show 31 < 52 by decide) rfl rfl dw_M_alike_306 rfl (fun r31 => ?_)
                        refine gx_aload_n hX 0 308 dw_M_alike_307 rfl rfl rfl ?_
                        refine mg_0 hX 42 311 (by decide) tw_950 rfl dw_M_alike_308 rfl ?_
                        refine gx_aload_n hX 0 312 dw_M_alike_311 rfl rfl rfl ?_
                        refine mg_0 hX 38 315 (by decide) tw_946 rfl dw_M_alike_312 rfl ?_
                        refine gx_iload hX 2 317 dw_M_alike_315 rfl rfl ?_
                        refine gx_iload hX 5 319 dw_M_alike_317 rfl rfl ?_
                        refine gx_iadd hX 320 dw_M_alike_319 rfl ?_
                        refine gf_iald (u := md_u ob cI cB cS cZ) hX 28 29 0 321 (show 28 < 52 by decide) rfl rfl dw_M_alike_320 rfl (fun r32 => ?_)
                        refine gx_iload hX 7 323 dw_M_alike_321 rfl rfl ?_
                        refine gx_iadd hX 324 dw_M_alike_323 rfl ?_
                        refine gf_sald (u := md_u ob cI cB cS cZ) hX 31 32 2 325 (show 31 < 52 by decide) rfl rfl dw_M_alike_324 rfl (fun r33 => ?_)
                        refine gx_icmp_ne hX 332 328 dw_M_alike_325 (by decide) rfl (fun _ => ?_) (fun _ => ?_)
                        · exact gx_pick (lv' := [(0, .ref (ob 0)), (3, .int L3), (4, .int L4), (5, .int L5), (7, .int L7), (8, .int L8), (9, .int L9)]) hX [0, 1, 2, 3, 5, 6, 7] rfl (h332 σ22 L3 L4 L5 L7 L8 L9)
                        · refine gx_iconst hX 1 329 dw_M_alike_328 (by decide) rfl ?_
                          refine gx_goto hX 333 dw_M_alike_329 (by decide) ?_
                          exact gx_pick (lv' := [(0, .ref (ob 0)), (3, .int L3), (4, .int L4), (5, .int L5), (7, .int L7), (8, .int L8), (9, .int L9)]) hX [0, 1, 2, 3, 5, 6, 7] rfl (h333 σ22 L3 L4 L5 L7 L8 L9 1)
                refine gx_jnI (fun (j : gx_S → Int32 → Int32 → Int32 → Int32 → Int32 → gx_R) => ∀ (σ34 : gx_S) (L3 : Int32) (L4 : Int32) (L5 : Int32) (L7 : Int32) (L8 : Int32), gx_G (md_V D ob cI cB cS cZ) X (j σ34 L3 L4 L5 L7 L8) σ34 234 [(0, .ref (ob 0)), (3, .int L3), (4, .int L4), (5, .int L5), (7, .int L7), (8, .int L8)] []) (fun σ34 L3 L4 L5 L7 L8 => ?_) (fun j234 h234 => ?_)
                · refine gx_iconst hX 0 235 dw_M_alike_234 (by decide) rfl ?_
                  exact gx_pick (lv' := [(0, .ref (ob 0)), (3, .int L3), (4, .int L4), (5, .int L5), (7, .int L7), (8, .int L8)]) hX [0, 1, 2, 3, 4, 5] rfl (h235 σ34 L3 L4 L5 L7 L8 0)
                refine gx_icmp_ne hX 234 146 dw_M_alike_143 (by decide) rfl (fun _ => ?_) (fun _ => ?_)
                · exact gx_pick (lv' := [(0, .ref (ob 0)), (3, .int L3), (4, .int L4), (5, .int L5), (7, .int L7), (8, .int x16)]) hX [1, 2, 3, 4, 6, 0] rfl (h234 σ13 L3 L4 L5 L7 x16)
                · refine gx_aload_n hX 1 147 dw_M_alike_146 rfl rfl rfl ?_
                  refine mg_0 hX 37 150 (by decide) tw_945 rfl dw_M_alike_147 rfl ?_
                  refine gx_iload_n hX 2 151 dw_M_alike_150 rfl rfl rfl ?_
                  refine gx_iload hX 6 153 dw_M_alike_151 rfl rfl ?_
                  refine gx_iadd hX 154 dw_M_alike_153 rfl ?_
                  refine gf_iald (u := md_u ob cI cB cS cZ) hX 27 28 0 155 (show 27 < 52 by decide) rfl rfl dw_M_alike_154 rfl (fun r35 => ?_)
                  refine gx_aload_n hX 1 156 dw_M_alike_155 rfl rfl rfl ?_
                  refine mg_0 hX 37 159 (by decide) tw_945 rfl dw_M_alike_156 rfl ?_
                  refine gx_iload hX 3 161 dw_M_alike_159 rfl rfl ?_
                  refine gx_iload hX 6 163 dw_M_alike_161 rfl rfl ?_
                  refine gx_iadd hX 164 dw_M_alike_163 rfl ?_
                  refine gf_iald (u := md_u ob cI cB cS cZ) hX 27 28 0 165 (show 27 < 52 by decide) rfl rfl dw_M_alike_164 rfl (fun r36 => ?_)
                  refine gx_icmp_ne hX 234 168 dw_M_alike_165 (by decide) rfl (fun _ => ?_) (fun _ => ?_)
                  · exact gx_pick (lv' := [(0, .ref (ob 0)), (3, .int L3), (4, .int L4), (5, .int L5), (7, .int L7), (8, .int x16)]) hX [1, 2, 3, 4, 6, 0] rfl (h234 σ13 L3 L4 L5 L7 x16)
                  · refine gx_aload_n hX 1 169 dw_M_alike_168 rfl rfl rfl ?_
                    refine mg_0 hX 38 172 (by decide) tw_946 rfl dw_M_alike_169 rfl ?_
                    refine gx_iload hX 3 174 dw_M_alike_172 rfl rfl ?_
                    refine gx_iload hX 6 176 dw_M_alike_174 rfl rfl ?_
                    refine gx_iadd hX 177 dw_M_alike_176 rfl ?_
                    refine gx_iconst hX 1 178 dw_M_alike_177 (by decide) rfl ?_
                    refine gx_iadd hX 179 dw_M_alike_178 rfl ?_
                    refine gf_iald (u := md_u ob cI cB cS cZ) hX 28 29 0 180 (show 28 < 52 by decide) rfl rfl dw_M_alike_179 rfl (fun r37 => ?_)
                    refine gx_aload_n hX 1 181 dw_M_alike_180 rfl rfl rfl ?_
                    refine mg_0 hX 38 184 (by decide) tw_946 rfl dw_M_alike_181 rfl ?_
                    refine gx_iload hX 3 186 dw_M_alike_184 rfl rfl ?_
                    refine gx_iload hX 6 188 dw_M_alike_186 rfl rfl ?_
                    refine gx_iadd hX 189 dw_M_alike_188 rfl ?_
                    refine gf_iald (u := md_u ob cI cB cS cZ) hX 28 29 0 190 (show 28 < 52 by decide) rfl rfl dw_M_alike_189 rfl (fun r38 => ?_)
                    refine gx_isub hX 191 dw_M_alike_190 rfl ?_
                    refine gx_iload hX 0 193 dw_M_alike_191 rfl rfl ?_
                    refine gx_icmp_ne hX 234 196 dw_M_alike_193 (by decide) rfl (fun _ => ?_) (fun _ => ?_)
                    · exact gx_pick (lv' := [(0, .ref (ob 0)), (3, .int L3), (4, .int L4), (5, .int L5), (7, .int L7), (8, .int x16)]) hX [1, 2, 3, 4, 6, 0] rfl (h234 σ13 L3 L4 L5 L7 x16)
                    · refine gx_aload_n hX 1 197 dw_M_alike_196 rfl rfl rfl ?_
                      refine mg_0 hX 36 200 (by decide) tw_944 rfl dw_M_alike_197 rfl ?_
                      refine gx_iload_n hX 2 201 dw_M_alike_200 rfl rfl rfl ?_
                      refine gx_iload hX 6 203 dw_M_alike_201 rfl rfl ?_
                      refine gx_iadd hX 204 dw_M_alike_203 rfl ?_
                      refine gf_bald (u := md_u ob cI cB cS cZ) hX 26 27 1 205 (show 26 < 52 by decide) rfl rfl dw_M_alike_204 rfl (fun r39 => ?_)
                      refine gx_jnI (fun (j : gx_S → Int32 → Int32 → Int32 → Int32 → Int32 → gx_R) => ∀ (σ40 : gx_S) (L3 : Int32) (L4 : Int32) (L5 : Int32) (L7 : Int32) (L8 : Int32), gx_G (md_V D ob cI cB cS cZ) X (j σ40 L3 L4 L5 L7 L8) σ40 230 [(0, .ref (ob 0)), (3, .int L3), (4, .int L4), (5, .int L5), (7, .int L7), (8, .int L8)] []) (fun σ40 L3 L4 L5 L7 L8 => ?_) (fun j230 h230 => ?_)
                      · refine gx_iconst hX 1 231 dw_M_alike_230 (by decide) rfl ?_
                        refine gx_goto hX 235 dw_M_alike_231 (by decide) ?_
                        exact gx_pick (lv' := [(0, .ref (ob 0)), (3, .int L3), (4, .int L4), (5, .int L5), (7, .int L7), (8, .int L8)]) hX [0, 1, 2, 3, 4, 5] rfl (h235 σ40 L3 L4 L5 L7 L8 1)
                      refine gx_if_ne hX 230 208 dw_M_alike_205 (by decide) rfl (fun _ => ?_) (fun _ => ?_)
                      · exact gx_pick (lv' := [(0, .ref (ob 0)), (3, .int L3), (4, .int L4), (5, .int L5), (7, .int L7), (8, .int x16)]) hX [1, 2, 3, 4, 6, 0] rfl (h230 σ13 L3 L4 L5 L7 x16)
                      · refine gx_aload_n hX 1 209 dw_M_alike_208 rfl rfl rfl ?_
                        refine mg_0 hX 72 212 (by decide) tw_980 rfl dw_M_alike_209 rfl ?_
                        refine gx_iload_n hX 2 213 dw_M_alike_212 rfl rfl rfl ?_
                        refine gx_iload hX 6 215 dw_M_alike_213 rfl rfl ?_
                        refine gx_iadd hX 216 dw_M_alike_215 rfl ?_
                        refine gf_zald (u := md_u ob cI cB cS cZ) hX 51 52 3 217 (show 51 < 52 by decide) rfl rfl dw_M_alike_216 rfl (fun r41 => ?_)
                        refine gx_aload_n hX 1 218 dw_M_alike_217 rfl rfl rfl ?_
                        refine mg_0 hX 72 221 (by decide) tw_980 rfl dw_M_alike_218 rfl ?_
                        refine gx_iload hX 3 223 dw_M_alike_221 rfl rfl ?_
                        refine gx_iload hX 6 225 dw_M_alike_223 rfl rfl ?_
                        refine gx_iadd hX 226 dw_M_alike_225 rfl ?_
                        refine gf_zald (u := md_u ob cI cB cS cZ) hX 51 52 3 227 (show 51 < 52 by decide) rfl rfl dw_M_alike_226 rfl (fun r42 => ?_)
                        refine gx_icmp_ne hX 234 230 dw_M_alike_227 (by decide) rfl (fun _ => ?_) (fun _ => ?_)
                        · exact gx_pick (lv' := [(0, .ref (ob 0)), (3, .int L3), (4, .int L4), (5, .int L5), (7, .int L7), (8, .int x16)]) hX [1, 2, 3, 4, 6, 0] rfl (h234 σ13 L3 L4 L5 L7 x16)
                        · exact gx_pick (lv' := [(0, .ref (ob 0)), (3, .int L3), (4, .int L4), (5, .int L5), (7, .int L7), (8, .int x16)]) hX [1, 2, 3, 4, 6, 0] rfl (h230 σ13 L3 L4 L5 L7 x16)
          refine gx_icmp_ne hX 83 79 dw_M_alike_76 (by decide) rfl (fun _ => ?_) (fun _ => ?_)
          · refine gx_iconst hX 0 84 dw_M_alike_83 (by decide) rfl ?_
            exact gx_pick (lv' := [(0, .ref (ob 0)), (3, .int r7), (4, .int r8), (5, .int x10)]) hX [3, 2, 1, 0] rfl (h84 σ3 r7 r8 x10 0)
          · refine gx_iconst hX 1 80 dw_M_alike_79 (by decide) rfl ?_
            refine gx_goto hX 84 dw_M_alike_80 (by decide) ?_
            exact gx_pick (lv' := [(0, .ref (ob 0)), (3, .int r7), (4, .int r8), (5, .int x10)]) hX [3, 2, 1, 0] rfl (h84 σ3 r7 r8 x10 1)
        · refine gx_iconst hX 0 35 dw_M_alike_34 (by decide) rfl ?_
          exact gx_retz hX dw_M_alike_35
def my_M_alike : MethodName := ⟨"TypeLoomModel", "alike", "(II)Z"⟩
theorem hy_M_alike : (my_M_alike.cls ≠ "java/lang/invoke/MethodHandle" ∧ my_M_alike.cls ≠ "java/lang/invoke/VarHandle") ∧ (parseMethodDescriptor my_M_alike.desc).map (fun d => d.parameters.length) = some 2 := by decide +kernel
theorem tm_M_alike {D : va_G} {ob : Nat → Nat} {cI cB cS cZ : ClassId} (l : Launch) (σ : gx_S) (L1 : Int32) (L2 : Int32) : gx_C l (md_V D ob cI cB cS cZ) my_M_alike prog_11_method_58_code 10 (some .boolean) 1 21 [.ref (ob 0), .int L1, .int L2] σ (km_M_alike σ L1 L2) := gx_met (by decide) rfl (Nat.le_of_ble_eq_true rfl) rfl (fun X _ hX => tl_M_alike hX σ L1 L2)
theorem tr_M_alike {D : va_G} {ob : Nat → Nat} {cI cB cS cZ : ClassId} {X : gx_X} {cc : ByteArray} {own : String} {nL fr lo : Nat} {rt : Option FieldType} {σ : gx_S} {pc : Nat} {lv : List (Nat × Value)} {st : List Value} (hX : gx_K (md_V D ob cI cB cS cZ) X cc own nL fr lo rt) {idx : Nat} {L1 : Int32} {L2 : Int32} {k : gx_S → Int32 → gx_R} (n : Nat) (hlink : Cond.methodLink own idx ({ cls := "TypeLoomModel", name := "alike", desc := "(II)Z" } : Jvm.MethodName) ∈ gx_T) (hroom : 1 + 1 ≤ fr ∧ 8 + (10 + 11) + 21 ≤ lo) (hst : (st.map fun v => v.category).sum ≤ 8) (hd : decode cc pc = .ok (.invokevirtual idx, 3)) (hn : pc + 3 = n) (kk : ∀ σ' r, gx_G (md_V D ob cI cB cS cZ) X (k σ' r) σ' n lv (.int r :: st)) : gx_G (md_V D ob cI cB cS cZ) X (gx_bd (km_M_alike σ L1 L2) k) σ pc lv (.int L2 :: .int L1 :: .ref (ob 0) :: st) :=
  gx_callI hX [.int L1, .int L2] n rfl (tm_M_alike _ σ L1 L2) hy_M_alike tw_1360 hlink tw_1358 tw_1359 tw_79 (gf_recv 0 (show 0 < 1 by decide) rfl rfl) hroom hst hd hn rfl (fun σ' r _ => kk σ' r)
def km_M_clear (σ : gx_S) (L1 : Int32) (L2 : Int32) : gx_R :=
  gx_jn (fun (σ1 : gx_S) (L1 : Int32) (L2 : Int32) (S0 : Int32) =>
    gx_jn (fun (σ2 : gx_S) (L1 : Int32) (L2 : Int32) (L3 : Int32) =>
      if L3 = 0 then
        gx_rz σ2 0
      else
        gx_sb (gx_si σ2 0 L1) (fun σ3 =>
        gx_sb (gx_si σ3 8 L2) (fun σ4 =>
        gx_ld σ4 22 2049 L2 (fun r5 =>
        gx_sb (gx_si σ4 9 r5) (fun σ6 =>
        gx_ld σ6 28 16386 ((σ6.1 9)) (fun r7 =>
        gx_sb (gx_si σ6 10 r7) (fun σ8 =>
        gx_sb (gx_si σ8 1 0) (fun σ9 =>
        gx_sb (gx_si σ9 2 0) (fun σ10 =>
        gx_sb (gx_si σ10 3 0) (fun σ11 =>
        gx_sb (gx_si σ11 4 0) (fun σ12 =>
        gx_sb (gx_si σ12 5 0) (fun σ13 =>
        gx_sb (gx_si σ13 6 0) (fun σ14 =>
        gx_sb (gx_si σ14 7 0) (fun σ15 =>
        gx_rz σ15 1)))))))))))))) (fun j118 =>
    gx_lp (α := gx_S → Int32 → Int32 → Int32 → Int32 → gx_R) (fun _ _ _ _ _ => none) (fun again33 (σ16 : gx_S) (L1 : Int32) (L2 : Int32) (L3 : Int32) (L4 : Int32) =>
      if L2 ≤ L4 then
      j118 σ16 L1 L2 L3
    else
      if L3 = 0 then
        j118 σ16 L1 L2 L3
      else
        gx_ld σ16 25 2048 L4 (fun r17 =>
        gx_ld σ16 22 2049 L4 (fun r18 =>
        gx_jn (fun (σ19 : gx_S) (L1 : Int32) (L2 : Int32) (L3 : Int32) (L4 : Int32) =>
          gx_bv (L4 + 1) (fun x20 =>
          again33 σ19 L1 L2 L3 x20)) (fun j112 =>
        gx_lp (α := gx_S → Int32 → Int32 → Int32 → Int32 → Int32 → gx_R) (fun _ _ _ _ _ _ => none) (fun again60 (σ21 : gx_S) (L1 : Int32) (L2 : Int32) (L3 : Int32) (L4 : Int32) (L5 : Int32) =>
          gx_ld σ21 22 2049 ((L4 + 1)) (fun r22 =>
        if r22 ≤ L5 then
          j112 σ21 L1 L2 L3 L4
        else
          gx_jn (fun (σ23 : gx_S) (L1 : Int32) (L2 : Int32) (L4 : Int32) (L5 : Int32) (S0 : Int32) =>
            gx_bv (L5 + 1) (fun x24 =>
            again60 σ23 L1 L2 S0 L4 x24)) (fun j105 =>
          gx_jn (fun (σ25 : gx_S) (L1 : Int32) (L2 : Int32) (L4 : Int32) (L5 : Int32) =>
            j105 σ25 L1 L2 L4 L5 0) (fun j104 =>
          if L3 = 0 then
            j104 σ21 L1 L2 L4 L5
          else
            gx_ld σ21 26 16386 L5 (fun r26 =>
            gx_jn (fun (σ27 : gx_S) (L1 : Int32) (L2 : Int32) (L4 : Int32) (L5 : Int32) =>
              j105 σ27 L1 L2 L4 L5 1) (fun j100 =>
            if r26 = 2 then
              gx_ld σ21 27 16386 L5 (fun r28 =>
              if L1 ≤ r28 then
                j104 σ21 L1 L2 L4 L5
              else
                j100 σ21 L1 L2 L4 L5)
            else
              j100 σ21 L1 L2 L4 L5)))))) gx_F σ16 L1 L2 r17 L4 r18)))) gx_F σ1 L1 L2 S0 0)) (fun j29 =>
  gx_jn (fun (σ29 : gx_S) (L1 : Int32) (L2 : Int32) =>
    j29 σ29 L1 L2 0) (fun j28 =>
  if L1 < 0 then
    j28 σ L1 L2
  else
    if (σ.1 0) < L1 then
      j28 σ L1 L2
    else
      if L2 < 0 then
        j28 σ L1 L2
      else
        if (σ.1 8) < L2 then
          j28 σ L1 L2
        else
          j29 σ L1 L2 1))
set_option maxRecDepth 100000 in
set_option maxHeartbeats 4000000 in
theorem tl_M_clear {D : va_G} {ob : Nat → Nat} {cI cB cS cZ : ClassId} {X : gx_X} (hX : gx_K (md_V D ob cI cB cS cZ) X prog_11_method_59_code "TypeLoomModel" 6 0 0 (some .boolean)) (σ : gx_S) (L1 : Int32) (L2 : Int32) : gx_G (md_V D ob cI cB cS cZ) X (km_M_clear σ L1 L2) σ 0 [(0, .ref (ob 0)), (1, .int L1), (2, .int L2)] [] := by
  unfold km_M_clear
  refine gx_iload_n hX 1 1 dw_M_clear_0 rfl rfl rfl ?_
  refine gx_jnI (fun (j : gx_S → Int32 → Int32 → Int32 → gx_R) => ∀ (σ1 : gx_S) (L1 : Int32) (L2 : Int32) (S0 : Int32), gx_G (md_V D ob cI cB cS cZ) X (j σ1 L1 L2 S0) σ1 29 [(0, .ref (ob 0)), (1, .int L1), (2, .int L2)] [.int S0]) (fun σ1 L1 L2 S0 => ?_) (fun j29 h29 => ?_)
  · refine gx_istore_n hX [(3, .int S0), (0, .ref (ob 0)), (1, .int L1), (2, .int L2)] 30 dw_M_clear_29 rfl (by decide) rfl rfl ?_
    refine gx_iconst hX 0 31 dw_M_clear_30 (by decide) rfl ?_
    refine gx_istore hX [(4, .int 0), (3, .int S0), (0, .ref (ob 0)), (1, .int L1), (2, .int L2)] 33 dw_M_clear_31 (by decide) rfl rfl ?_
    refine gx_jnI (fun (j : gx_S → Int32 → Int32 → Int32 → gx_R) => ∀ (σ2 : gx_S) (L1 : Int32) (L2 : Int32) (L3 : Int32), gx_G (md_V D ob cI cB cS cZ) X (j σ2 L1 L2 L3) σ2 118 [(0, .ref (ob 0)), (1, .int L1), (2, .int L2), (3, .int L3)] []) (fun σ2 L1 L2 L3 => ?_) (fun j118 h118 => ?_)
    · refine gx_iload_n hX 3 119 dw_M_clear_118 rfl rfl rfl ?_
      refine gx_if_ne hX 124 122 dw_M_clear_119 (by decide) rfl (fun _ => ?_) (fun _ => ?_)
      · refine gx_aload_n hX 0 125 dw_M_clear_124 rfl rfl rfl ?_
        refine gx_iload_n hX 1 126 dw_M_clear_125 rfl rfl rfl ?_
        refine mp_0 hX 129 tw_908 dw_M_clear_126 rfl (fun σ3 => ?_)
        refine gx_aload_n hX 0 130 dw_M_clear_129 rfl rfl rfl ?_
        refine gx_iload_n hX 2 131 dw_M_clear_130 rfl rfl rfl ?_
        refine mp_8 hX 134 tw_938 dw_M_clear_131 rfl (fun σ4 => ?_)
        refine gx_aload_n hX 0 135 dw_M_clear_134 rfl rfl rfl ?_
        refine gx_aload_n hX 0 136 dw_M_clear_135 rfl rfl rfl ?_
        refine mg_0 hX 31 139 (by decide) tw_939 rfl dw_M_clear_136 rfl ?_
        refine gx_iload_n hX 2 140 dw_M_clear_139 rfl rfl rfl ?_
        refine gf_iald (u := md_u ob cI cB cS cZ) hX 22 23 0 141 (show 22 < 52 by decide) rfl rfl dw_M_clear_140 rfl (fun r5 => ?_)
        refine mp_9 hX 144 tw_943 dw_M_clear_141 rfl (fun σ6 => ?_)
        refine gx_aload_n hX 0 145 dw_M_clear_144 rfl rfl rfl ?_
        refine gx_aload_n hX 0 146 dw_M_clear_145 rfl rfl rfl ?_
        refine mg_0 hX 38 149 (by decide) tw_946 rfl dw_M_clear_146 rfl ?_
        refine gx_aload_n hX 0 150 dw_M_clear_149 rfl rfl rfl ?_
        refine mg_0 hX 35 153 (by decide) tw_943 rfl dw_M_clear_150 rfl ?_
        refine gf_iald (u := md_u ob cI cB cS cZ) hX 28 29 0 154 (show 28 < 52 by decide) rfl rfl dw_M_clear_153 rfl (fun r7 => ?_)
        refine mp_10 hX 157 tw_948 dw_M_clear_154 rfl (fun σ8 => ?_)
        refine gx_aload_n hX 0 158 dw_M_clear_157 rfl rfl rfl ?_
        refine gx_iconst hX 0 159 dw_M_clear_158 (by decide) rfl ?_
        refine mp_1 hX 162 tw_911 dw_M_clear_159 rfl (fun σ9 => ?_)
        refine gx_aload_n hX 0 163 dw_M_clear_162 rfl rfl rfl ?_
        refine gx_iconst hX 0 164 dw_M_clear_163 (by decide) rfl ?_
        refine mp_2 hX 167 tw_921 dw_M_clear_164 rfl (fun σ10 => ?_)
        refine gx_aload_n hX 0 168 dw_M_clear_167 rfl rfl rfl ?_
        refine gx_iconst hX 0 169 dw_M_clear_168 (by decide) rfl ?_
        refine mp_3 hX 172 tw_924 dw_M_clear_169 rfl (fun σ11 => ?_)
        refine gx_aload_n hX 0 173 dw_M_clear_172 rfl rfl rfl ?_
        refine gx_iconst hX 0 174 dw_M_clear_173 (by decide) rfl ?_
        refine mp_4 hX 177 tw_925 dw_M_clear_174 rfl (fun σ12 => ?_)
        refine gx_aload_n hX 0 178 dw_M_clear_177 rfl rfl rfl ?_
        refine gx_iconst hX 0 179 dw_M_clear_178 (by decide) rfl ?_
        refine mp_5 hX 182 tw_931 dw_M_clear_179 rfl (fun σ13 => ?_)
        refine gx_aload_n hX 0 183 dw_M_clear_182 rfl rfl rfl ?_
        refine gx_iconst hX 0 184 dw_M_clear_183 (by decide) rfl ?_
        refine mp_6 hX 187 tw_934 dw_M_clear_184 rfl (fun σ14 => ?_)
        refine gx_aload_n hX 0 188 dw_M_clear_187 rfl rfl rfl ?_
        refine gx_iconst hX 0 189 dw_M_clear_188 (by decide) rfl ?_
        refine mp_7 hX 192 tw_937 dw_M_clear_189 rfl (fun σ15 => ?_)
        refine gx_iconst hX 1 193 dw_M_clear_192 (by decide) rfl ?_
        exact gx_retz hX dw_M_clear_193
      · refine gx_iconst hX 0 123 dw_M_clear_122 (by decide) rfl ?_
        exact gx_retz hX dw_M_clear_123
    refine gx_pick (lv' := [(0, .ref (ob 0)), (1, .int L1), (2, .int L2), (3, .int S0), (4, .int 0)]) hX [2, 3, 4, 1, 0] rfl (gx_lpI (fun (f : gx_S → Int32 → Int32 → Int32 → Int32 → gx_R) => ∀ (σ16 : gx_S) (L1 : Int32) (L2 : Int32) (L3 : Int32) (L4 : Int32), gx_G (md_V D ob cI cB cS cZ) X (f σ16 L1 L2 L3 L4) σ16 33 [(0, .ref (ob 0)), (1, .int L1), (2, .int L2), (3, .int L3), (4, .int L4)] []) (fun _ _ _ _ _ => gx_none) (fun again33 ih33 σ16 L1 L2 L3 L4 => ?_) _ σ1 L1 L2 S0 0)
    refine gx_iload hX 4 35 dw_M_clear_33 rfl rfl ?_
    refine gx_iload_n hX 2 36 dw_M_clear_35 rfl rfl rfl ?_
    refine gx_icmp_ge hX 118 39 dw_M_clear_36 (by decide) rfl (fun _ => ?_) (fun _ => ?_)
    · exact gx_pick (lv' := [(0, .ref (ob 0)), (1, .int L1), (2, .int L2), (3, .int L3)]) hX [0, 1, 2, 3] rfl (h118 σ16 L1 L2 L3)
    · refine gx_iload_n hX 3 40 dw_M_clear_39 rfl rfl rfl ?_
      refine gx_if_eq hX 118 43 dw_M_clear_40 (by decide) rfl (fun _ => ?_) (fun _ => ?_)
      · exact gx_pick (lv' := [(0, .ref (ob 0)), (1, .int L1), (2, .int L2), (3, .int L3)]) hX [0, 1, 2, 3] rfl (h118 σ16 L1 L2 L3)
      · refine gx_aload_n hX 0 44 dw_M_clear_43 rfl rfl rfl ?_
        refine mg_0 hX 34 47 (by decide) tw_942 rfl dw_M_clear_44 rfl ?_
        refine gx_iload hX 4 49 dw_M_clear_47 rfl rfl ?_
        refine gf_zald (u := md_u ob cI cB cS cZ) hX 25 26 3 50 (show 25 < 52 by decide) rfl rfl dw_M_clear_49 rfl (fun r17 => ?_)
        refine gx_istore_n hX [(3, .int r17), (0, .ref (ob 0)), (1, .int L1), (2, .int L2), (4, .int L4)] 51 dw_M_clear_50 rfl (by decide) rfl rfl ?_
        refine gx_aload_n hX 1 52 dw_M_clear_51 rfl rfl rfl ?_
        refine mg_0 hX 31 55 (by decide) tw_939 rfl dw_M_clear_52 rfl ?_
        refine gx_iload hX 4 57 dw_M_clear_55 rfl rfl ?_
        refine gf_iald (u := md_u ob cI cB cS cZ) hX 22 23 0 58 (show 22 < 52 by decide) rfl rfl dw_M_clear_57 rfl (fun r18 => ?_)
        refine gx_istore hX [(5, .int r18), (3, .int r17), (0, .ref (ob 0)), (1, .int L1), (2, .int L2), (4, .int L4)] 60 dw_M_clear_58 (by decide) rfl rfl ?_
        refine gx_jnI (fun (j : gx_S → Int32 → Int32 → Int32 → Int32 → gx_R) => ∀ (σ19 : gx_S) (L1 : Int32) (L2 : Int32) (L3 : Int32) (L4 : Int32), gx_G (md_V D ob cI cB cS cZ) X (j σ19 L1 L2 L3 L4) σ19 112 [(0, .ref (ob 0)), (1, .int L1), (2, .int L2), (3, .int L3), (4, .int L4)] []) (fun σ19 L1 L2 L3 L4 => ?_) (fun j112 h112 => ?_)
        · refine gx_iincN hX (q := 4) (fun x20 => [(4, .int x20), (0, .ref (ob 0)), (1, .int L1), (2, .int L2), (3, .int L3)]) 115 dw_M_clear_112 rfl rfl (by decide) (fun _ => rfl) rfl (fun x20 => ?_)
          refine gx_goto hX 33 dw_M_clear_115 (by decide) ?_
          exact gx_pick (lv' := [(0, .ref (ob 0)), (1, .int L1), (2, .int L2), (3, .int L3), (4, .int x20)]) hX [1, 2, 3, 4, 0] rfl (ih33 σ19 L1 L2 L3 x20)
        refine gx_pick (lv' := [(0, .ref (ob 0)), (1, .int L1), (2, .int L2), (3, .int r17), (4, .int L4), (5, .int r18)]) hX [2, 3, 4, 1, 5, 0] rfl (gx_lpI (fun (f : gx_S → Int32 → Int32 → Int32 → Int32 → Int32 → gx_R) => ∀ (σ21 : gx_S) (L1 : Int32) (L2 : Int32) (L3 : Int32) (L4 : Int32) (L5 : Int32), gx_G (md_V D ob cI cB cS cZ) X (f σ21 L1 L2 L3 L4 L5) σ21 60 [(0, .ref (ob 0)), (1, .int L1), (2, .int L2), (3, .int L3), (4, .int L4), (5, .int L5)] []) (fun _ _ _ _ _ _ => gx_none) (fun again60 ih60 σ21 L1 L2 L3 L4 L5 => ?_) _ σ16 L1 L2 r17 L4 r18)
        refine gx_iload hX 5 62 dw_M_clear_60 rfl rfl ?_
        refine gx_aload_n hX 0 63 dw_M_clear_62 rfl rfl rfl ?_
        refine mg_0 hX 31 66 (by decide) tw_939 rfl dw_M_clear_63 rfl ?_
        refine gx_iload hX 4 68 dw_M_clear_66 rfl rfl ?_
        refine gx_iconst hX 1 69 dw_M_clear_68 (by decide) rfl ?_
        refine gx_iadd hX 70 dw_M_clear_69 rfl ?_
        refine gf_iald (u := md_u ob cI cB cS cZ) hX 22 23 0 71 (show 22 < 52 by decide) rfl rfl dw_M_clear_70 rfl (fun r22 => ?_)
        refine gx_icmp_ge hX 112 74 dw_M_clear_71 (by decide) rfl (fun _ => ?_) (fun _ => ?_)
        · exact gx_pick (lv' := [(0, .ref (ob 0)), (1, .int L1), (2, .int L2), (3, .int L3), (4, .int L4)]) hX [0, 1, 2, 3, 4] rfl (h112 σ21 L1 L2 L3 L4)
        · refine gx_iload_n hX 3 75 dw_M_clear_74 rfl rfl rfl ?_
          refine gx_jnI (fun (j : gx_S → Int32 → Int32 → Int32 → Int32 → Int32 → gx_R) => ∀ (σ23 : gx_S) (L1 : Int32) (L2 : Int32) (L4 : Int32) (L5 : Int32) (S0 : Int32), gx_G (md_V D ob cI cB cS cZ) X (j σ23 L1 L2 L4 L5 S0) σ23 105 [(0, .ref (ob 0)), (1, .int L1), (2, .int L2), (4, .int L4), (5, .int L5)] [.int S0]) (fun σ23 L1 L2 L4 L5 S0 => ?_) (fun j105 h105 => ?_)
          · refine gx_istore_n hX [(3, .int S0), (0, .ref (ob 0)), (1, .int L1), (2, .int L2), (4, .int L4), (5, .int L5)] 106 dw_M_clear_105 rfl (by decide) rfl rfl ?_
            refine gx_iincN hX (q := 5) (fun x24 => [(5, .int x24), (3, .int S0), (0, .ref (ob 0)), (1, .int L1), (2, .int L2), (4, .int L4)]) 109 dw_M_clear_106 rfl rfl (by decide) (fun _ => rfl) rfl (fun x24 => ?_)
            refine gx_goto hX 60 dw_M_clear_109 (by decide) ?_
            exact gx_pick (lv' := [(0, .ref (ob 0)), (1, .int L1), (2, .int L2), (3, .int S0), (4, .int L4), (5, .int x24)]) hX [2, 3, 4, 1, 5, 0] rfl (ih60 σ23 L1 L2 S0 L4 x24)
          refine gx_jnI (fun (j : gx_S → Int32 → Int32 → Int32 → Int32 → gx_R) => ∀ (σ25 : gx_S) (L1 : Int32) (L2 : Int32) (L4 : Int32) (L5 : Int32), gx_G (md_V D ob cI cB cS cZ) X (j σ25 L1 L2 L4 L5) σ25 104 [(0, .ref (ob 0)), (1, .int L1), (2, .int L2), (4, .int L4), (5, .int L5)] []) (fun σ25 L1 L2 L4 L5 => ?_) (fun j104 h104 => ?_)
          · refine gx_iconst hX 0 105 dw_M_clear_104 (by decide) rfl ?_
            exact gx_pick (lv' := [(0, .ref (ob 0)), (1, .int L1), (2, .int L2), (4, .int L4), (5, .int L5)]) hX [0, 1, 2, 3, 4] rfl (h105 σ25 L1 L2 L4 L5 0)
          refine gx_if_eq hX 104 78 dw_M_clear_75 (by decide) rfl (fun _ => ?_) (fun _ => ?_)
          · exact gx_pick (lv' := [(0, .ref (ob 0)), (1, .int L1), (2, .int L2), (4, .int L4), (5, .int L5)]) hX [0, 1, 2, 4, 5] rfl (h104 σ21 L1 L2 L4 L5)
          · refine gx_aload_n hX 0 79 dw_M_clear_78 rfl rfl rfl ?_
            refine mg_0 hX 36 82 (by decide) tw_944 rfl dw_M_clear_79 rfl ?_
            refine gx_iload hX 5 84 dw_M_clear_82 rfl rfl ?_
            refine gf_bald (u := md_u ob cI cB cS cZ) hX 26 27 1 85 (show 26 < 52 by decide) rfl rfl dw_M_clear_84 rfl (fun r26 => ?_)
            refine gx_iconst hX 2 86 dw_M_clear_85 (by decide) rfl ?_
            refine gx_jnI (fun (j : gx_S → Int32 → Int32 → Int32 → Int32 → gx_R) => ∀ (σ27 : gx_S) (L1 : Int32) (L2 : Int32) (L4 : Int32) (L5 : Int32), gx_G (md_V D ob cI cB cS cZ) X (j σ27 L1 L2 L4 L5) σ27 100 [(0, .ref (ob 0)), (1, .int L1), (2, .int L2), (4, .int L4), (5, .int L5)] []) (fun σ27 L1 L2 L4 L5 => ?_) (fun j100 h100 => ?_)
            · refine gx_iconst hX 1 101 dw_M_clear_100 (by decide) rfl ?_
              refine gx_goto hX 105 dw_M_clear_101 (by decide) ?_
              exact gx_pick (lv' := [(0, .ref (ob 0)), (1, .int L1), (2, .int L2), (4, .int L4), (5, .int L5)]) hX [0, 1, 2, 3, 4] rfl (h105 σ27 L1 L2 L4 L5 1)
            refine gx_icmp_ne hX 100 89 dw_M_clear_86 (by decide) rfl (fun _ => ?_) (fun _ => ?_)
            · exact gx_pick (lv' := [(0, .ref (ob 0)), (1, .int L1), (2, .int L2), (4, .int L4), (5, .int L5)]) hX [0, 1, 2, 4, 5] rfl (h100 σ21 L1 L2 L4 L5)
            · refine gx_aload_n hX 0 90 dw_M_clear_89 rfl rfl rfl ?_
              refine mg_0 hX 37 93 (by decide) tw_945 rfl dw_M_clear_90 rfl ?_
              refine gx_iload hX 5 95 dw_M_clear_93 rfl rfl ?_
              refine gf_iald (u := md_u ob cI cB cS cZ) hX 27 28 0 96 (show 27 < 52 by decide) rfl rfl dw_M_clear_95 rfl (fun r28 => ?_)
              refine gx_iload_n hX 1 97 dw_M_clear_96 rfl rfl rfl ?_
              refine gx_icmp_ge hX 104 100 dw_M_clear_97 (by decide) rfl (fun _ => ?_) (fun _ => ?_)
              · exact gx_pick (lv' := [(0, .ref (ob 0)), (1, .int L1), (2, .int L2), (4, .int L4), (5, .int L5)]) hX [0, 1, 2, 4, 5] rfl (h104 σ21 L1 L2 L4 L5)
              · exact gx_pick (lv' := [(0, .ref (ob 0)), (1, .int L1), (2, .int L2), (4, .int L4), (5, .int L5)]) hX [0, 1, 2, 4, 5] rfl (h100 σ21 L1 L2 L4 L5)
  refine gx_jnI (fun (j : gx_S → Int32 → Int32 → gx_R) => ∀ (σ29 : gx_S) (L1 : Int32) (L2 : Int32), gx_G (md_V D ob cI cB cS cZ) X (j σ29 L1 L2) σ29 28 [(0, .ref (ob 0)), (1, .int L1), (2, .int L2)] []) (fun σ29 L1 L2 => ?_) (fun j28 h28 => ?_)
  · refine gx_iconst hX 0 29 dw_M_clear_28 (by decide) rfl ?_
    exact gx_pick (lv' := [(0, .ref (ob 0)), (1, .int L1), (2, .int L2)]) hX [0, 1, 2] rfl (h29 σ29 L1 L2 0)
  refine gx_if_lt hX 28 4 dw_M_clear_1 (by decide) rfl (fun _ => ?_) (fun _ => ?_)
  · exact gx_pick (lv' := [(0, .ref (ob 0)), (1, .int L1), (2, .int L2)]) hX [0, 1, 2] rfl (h28 σ L1 L2)
  · refine gx_iload_n hX 1 5 dw_M_clear_4 rfl rfl rfl ?_
    refine gx_aload_n hX 0 6 dw_M_clear_5 rfl rfl rfl ?_
    refine mg_0 hX 0 9 (by decide) tw_908 rfl dw_M_clear_6 rfl ?_
    refine gx_icmp_gt hX 28 12 dw_M_clear_9 (by decide) rfl (fun _ => ?_) (fun _ => ?_)
    · exact gx_pick (lv' := [(0, .ref (ob 0)), (1, .int L1), (2, .int L2)]) hX [0, 1, 2] rfl (h28 σ L1 L2)
    · refine gx_iload_n hX 2 13 dw_M_clear_12 rfl rfl rfl ?_
      refine gx_if_lt hX 28 16 dw_M_clear_13 (by decide) rfl (fun _ => ?_) (fun _ => ?_)
      · exact gx_pick (lv' := [(0, .ref (ob 0)), (1, .int L1), (2, .int L2)]) hX [0, 1, 2] rfl (h28 σ L1 L2)
      · refine gx_iload_n hX 2 17 dw_M_clear_16 rfl rfl rfl ?_
        refine gx_aload_n hX 0 18 dw_M_clear_17 rfl rfl rfl ?_
        refine mg_0 hX 30 21 (by decide) tw_938 rfl dw_M_clear_18 rfl ?_
        refine gx_icmp_gt hX 28 24 dw_M_clear_21 (by decide) rfl (fun _ => ?_) (fun _ => ?_)
        · exact gx_pick (lv' := [(0, .ref (ob 0)), (1, .int L1), (2, .int L2)]) hX [0, 1, 2] rfl (h28 σ L1 L2)
        · refine gx_iconst hX 1 25 dw_M_clear_24 (by decide) rfl ?_
          refine gx_goto hX 29 dw_M_clear_25 (by decide) ?_
          exact gx_pick (lv' := [(0, .ref (ob 0)), (1, .int L1), (2, .int L2)]) hX [0, 1, 2] rfl (h29 σ L1 L2 1)
def my_M_clear : MethodName := ⟨"TypeLoomModel", "clear", "(II)Z"⟩
theorem hy_M_clear : (my_M_clear.cls ≠ "java/lang/invoke/MethodHandle" ∧ my_M_clear.cls ≠ "java/lang/invoke/VarHandle") ∧ (parseMethodDescriptor my_M_clear.desc).map (fun d => d.parameters.length) = some 2 := by decide +kernel
theorem tm_M_clear {D : va_G} {ob : Nat → Nat} {cI cB cS cZ : ClassId} (l : Launch) (σ : gx_S) (L1 : Int32) (L2 : Int32) : gx_C l (md_V D ob cI cB cS cZ) my_M_clear prog_11_method_59_code 6 (some .boolean) 0 0 [.ref (ob 0), .int L1, .int L2] σ (km_M_clear σ L1 L2) := gx_met (by decide) rfl (Nat.le_of_ble_eq_true rfl) rfl (fun X _ hX => tl_M_clear hX σ L1 L2)
theorem tr_M_clear {D : va_G} {ob : Nat → Nat} {cI cB cS cZ : ClassId} {X : gx_X} {cc : ByteArray} {own : String} {nL fr lo : Nat} {rt : Option FieldType} {σ : gx_S} {pc : Nat} {lv : List (Nat × Value)} {st : List Value} (hX : gx_K (md_V D ob cI cB cS cZ) X cc own nL fr lo rt) {idx : Nat} {L1 : Int32} {L2 : Int32} {k : gx_S → Int32 → gx_R} (n : Nat) (hlink : Cond.methodLink own idx ({ cls := "TypeLoomModel", name := "clear", desc := "(II)Z" } : Jvm.MethodName) ∈ gx_T) (hroom : 0 + 1 ≤ fr ∧ 8 + (6 + 11) + 0 ≤ lo) (hst : (st.map fun v => v.category).sum ≤ 8) (hd : decode cc pc = .ok (.invokevirtual idx, 3)) (hn : pc + 3 = n) (kk : ∀ σ' r, gx_G (md_V D ob cI cB cS cZ) X (k σ' r) σ' n lv (.int r :: st)) : gx_G (md_V D ob cI cB cS cZ) X (gx_bd (km_M_clear σ L1 L2) k) σ pc lv (.int L2 :: .int L1 :: .ref (ob 0) :: st) :=
  gx_callI hX [.int L1, .int L2] n rfl (tm_M_clear _ σ L1 L2) hy_M_clear tw_1364 hlink tw_1362 tw_1363 tw_79 (gf_recv 0 (show 0 < 1 by decide) rfl rfl) hroom hst hd hn rfl (fun σ' r _ => kk σ' r)
def km_M_count (σ : gx_S) (L1 : Int32) : gx_R :=
  if L1 = 0 then
    some (σ, (σ.1 0))
  else if L1 = 1 then
    some (σ, (σ.1 1))
  else if L1 = 2 then
    some (σ, (σ.1 6))
  else if L1 = 3 then
    some (σ, (σ.1 8))
  else if L1 = 4 then
    some (σ, (σ.1 2))
  else if L1 = 5 then
    some (σ, (σ.1 9))
  else if L1 = 6 then
    some (σ, (σ.1 10))
  else if L1 = 7 then
    some (σ, (σ.1 3))
  else if L1 = 8 then
    some (σ, (σ.1 7))
  else some (σ, (-1))
set_option maxRecDepth 100000 in
set_option maxHeartbeats 4000000 in
theorem tl_M_count {D : va_G} {ob : Nat → Nat} {cI cB cS cZ : ClassId} {X : gx_X} (hX : gx_K (md_V D ob cI cB cS cZ) X prog_11_method_60_code "TypeLoomModel" 2 0 0 (some .int)) (σ : gx_S) (L1 : Int32) : gx_G (md_V D ob cI cB cS cZ) X (km_M_count σ L1) σ 0 [(0, .ref (ob 0)), (1, .int L1)] [] := by
  unfold km_M_count
  refine gx_iload_n hX 1 1 dw_M_count_0 rfl rfl rfl ?_
  refine gx_tsw9 hX 52 57 62 67 72 77 82 87 92 97 dw_M_count_1 (by decide) (by decide) (by decide) (by decide) (by decide) (by decide) (by decide) (by decide) (by decide) (by decide) ?_ ?_ ?_ ?_ ?_ ?_ ?_ ?_ ?_ ?_
  · refine gx_aload_n hX 0 53 dw_M_count_52 rfl rfl rfl ?_
    refine mg_0 hX 0 56 (by decide) tw_908 rfl dw_M_count_53 rfl ?_
    exact gx_ret hX dw_M_count_56
  · refine gx_aload_n hX 0 58 dw_M_count_57 rfl rfl rfl ?_
    refine mg_0 hX 3 61 (by decide) tw_911 rfl dw_M_count_58 rfl ?_
    exact gx_ret hX dw_M_count_61
  · refine gx_aload_n hX 0 63 dw_M_count_62 rfl rfl rfl ?_
    refine mg_0 hX 26 66 (by decide) tw_934 rfl dw_M_count_63 rfl ?_
    exact gx_ret hX dw_M_count_66
  · refine gx_aload_n hX 0 68 dw_M_count_67 rfl rfl rfl ?_
    refine mg_0 hX 30 71 (by decide) tw_938 rfl dw_M_count_68 rfl ?_
    exact gx_ret hX dw_M_count_71
  · refine gx_aload_n hX 0 73 dw_M_count_72 rfl rfl rfl ?_
    refine mg_0 hX 13 76 (by decide) tw_921 rfl dw_M_count_73 rfl ?_
    exact gx_ret hX dw_M_count_76
  · refine gx_aload_n hX 0 78 dw_M_count_77 rfl rfl rfl ?_
    refine mg_0 hX 35 81 (by decide) tw_943 rfl dw_M_count_78 rfl ?_
    exact gx_ret hX dw_M_count_81
  · refine gx_aload_n hX 0 83 dw_M_count_82 rfl rfl rfl ?_
    refine mg_0 hX 40 86 (by decide) tw_948 rfl dw_M_count_83 rfl ?_
    exact gx_ret hX dw_M_count_86
  · refine gx_aload_n hX 0 88 dw_M_count_87 rfl rfl rfl ?_
    refine mg_0 hX 16 91 (by decide) tw_924 rfl dw_M_count_88 rfl ?_
    exact gx_ret hX dw_M_count_91
  · refine gx_aload_n hX 0 93 dw_M_count_92 rfl rfl rfl ?_
    refine mg_0 hX 29 96 (by decide) tw_937 rfl dw_M_count_93 rfl ?_
    exact gx_ret hX dw_M_count_96
  · refine gx_iconst hX (-1) 98 dw_M_count_97 (by decide) rfl ?_
    exact gx_ret hX dw_M_count_98
def my_M_count : MethodName := ⟨"TypeLoomModel", "count", "(I)I"⟩
theorem hy_M_count : (my_M_count.cls ≠ "java/lang/invoke/MethodHandle" ∧ my_M_count.cls ≠ "java/lang/invoke/VarHandle") ∧ (parseMethodDescriptor my_M_count.desc).map (fun d => d.parameters.length) = some 1 := by decide +kernel
theorem tm_M_count {D : va_G} {ob : Nat → Nat} {cI cB cS cZ : ClassId} (l : Launch) (σ : gx_S) (L1 : Int32) : gx_C l (md_V D ob cI cB cS cZ) my_M_count prog_11_method_60_code 2 (some .int) 0 0 [.ref (ob 0), .int L1] σ (km_M_count σ L1) := gx_met (by decide) rfl (Nat.le_of_ble_eq_true rfl) rfl (fun X _ hX => tl_M_count hX σ L1)
theorem tr_M_count {D : va_G} {ob : Nat → Nat} {cI cB cS cZ : ClassId} {X : gx_X} {cc : ByteArray} {own : String} {nL fr lo : Nat} {rt : Option FieldType} {σ : gx_S} {pc : Nat} {lv : List (Nat × Value)} {st : List Value} (hX : gx_K (md_V D ob cI cB cS cZ) X cc own nL fr lo rt) {idx : Nat} {L1 : Int32} {k : gx_S → Int32 → gx_R} (n : Nat) (hlink : Cond.methodLink own idx ({ cls := "TypeLoomModel", name := "count", desc := "(I)I" } : Jvm.MethodName) ∈ gx_T) (hroom : 0 + 1 ≤ fr ∧ 8 + (2 + 11) + 0 ≤ lo) (hst : (st.map fun v => v.category).sum ≤ 8) (hd : decode cc pc = .ok (.invokevirtual idx, 3)) (hn : pc + 3 = n) (kk : ∀ σ' r, gx_G (md_V D ob cI cB cS cZ) X (k σ' r) σ' n lv (.int r :: st)) : gx_G (md_V D ob cI cB cS cZ) X (gx_bd (km_M_count σ L1) k) σ pc lv (.int L1 :: .ref (ob 0) :: st) :=
  gx_callI hX [.int L1] n rfl (tm_M_count _ σ L1) hy_M_count tw_1368 hlink tw_1366 tw_1367 tw_79 (gf_recv 0 (show 0 < 1 by decide) rfl rfl) hroom hst hd hn rfl (fun σ' r _ => kk σ' r)
