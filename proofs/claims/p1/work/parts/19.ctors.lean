theorem tdv_0 : ∀ j, j < 8 → defaultValue (tt_0 j) = vp_V [.null, .null, .null, .null, .null, .null, .null, .int 0] j := by
  intro j hj
  match j, hj with
  | 0, _ => rfl
  | 1, _ => rfl
  | 2, _ => rfl
  | 3, _ => rfl
  | 4, _ => rfl
  | 5, _ => rfl
  | 6, _ => rfl
  | 7, _ => rfl
  | k + 8, h => exact absurd h (by omega)
theorem tdv_1 : ∀ j, j < 3 → defaultValue (tt_1 j) = vp_V [.null, .null, .int 0] j := by
  intro j hj
  match j, hj with
  | 0, _ => rfl
  | 1, _ => rfl
  | 2, _ => rfl
  | k + 3, h => exact absurd h (by omega)
theorem tdv_2 : ∀ j, j < 4 → defaultValue (tt_2 j) = vp_V [.null, .null, .int 0, .int 0] j := by
  intro j hj
  match j, hj with
  | 0, _ => rfl
  | 1, _ => rfl
  | 2, _ => rfl
  | 3, _ => rfl
  | k + 4, h => exact absurd h (by omega)
theorem tdv_3 : ∀ j, j < 17 → defaultValue (tt_3 j) = vp_V [.null, .null, .null, .null, .null, .null, .null, .null, .null, .null, .null, .null, .int 0, .int 0, .int 0, .int 0, .int 0] j := by
  intro j hj
  match j, hj with
  | 0, _ => rfl
  | 1, _ => rfl
  | 2, _ => rfl
  | 3, _ => rfl
  | 4, _ => rfl
  | 5, _ => rfl
  | 6, _ => rfl
  | 7, _ => rfl
  | 8, _ => rfl
  | 9, _ => rfl
  | 10, _ => rfl
  | 11, _ => rfl
  | 12, _ => rfl
  | 13, _ => rfl
  | 14, _ => rfl
  | 15, _ => rfl
  | 16, _ => rfl
  | k + 17, h => exact absurd h (by omega)
theorem tdv_4 : ∀ j, j < 9 → defaultValue (tt_4 j) = vp_V [.null, .null, .null, .null, .null, .null, .int 0, .int 0, .int 0] j := by
  intro j hj
  match j, hj with
  | 0, _ => rfl
  | 1, _ => rfl
  | 2, _ => rfl
  | 3, _ => rfl
  | 4, _ => rfl
  | 5, _ => rfl
  | 6, _ => rfl
  | 7, _ => rfl
  | 8, _ => rfl
  | k + 9, h => exact absurd h (by omega)
theorem tdv_5 : ∀ j, j < 7 → defaultValue (tt_5 j) = vp_V [.null, .null, .null, .null, .null, .null, .int 0] j := by
  intro j hj
  match j, hj with
  | 0, _ => rfl
  | 1, _ => rfl
  | 2, _ => rfl
  | 3, _ => rfl
  | 4, _ => rfl
  | 5, _ => rfl
  | 6, _ => rfl
  | k + 7, h => exact absurd h (by omega)
theorem tdv_6 : ∀ j, j < 18 → defaultValue (tt_6 j) = vp_V [.null, .null, .null, .null, .null, .null, .int 0, .null, .int 0, .null, .int 0, .null, .null, .null, .null, .int 0, .null, .int 0] j := by
  intro j hj
  match j, hj with
  | 0, _ => rfl
  | 1, _ => rfl
  | 2, _ => rfl
  | 3, _ => rfl
  | 4, _ => rfl
  | 5, _ => rfl
  | 6, _ => rfl
  | 7, _ => rfl
  | 8, _ => rfl
  | 9, _ => rfl
  | 10, _ => rfl
  | 11, _ => rfl
  | 12, _ => rfl
  | 13, _ => rfl
  | 14, _ => rfl
  | 15, _ => rfl
  | 16, _ => rfl
  | 17, _ => rfl
  | k + 18, h => exact absurd h (by omega)
theorem tdv_7 : ∀ j, j < 18 → defaultValue (tt_7 j) = vp_V [.null, .null, .null, .null, .null, .null, .null, .null, .null, .null, .null, .null, .null, .null, .null, .int 0, .int 0, .int 0] j := by
  intro j hj
  match j, hj with
  | 0, _ => rfl
  | 1, _ => rfl
  | 2, _ => rfl
  | 3, _ => rfl
  | 4, _ => rfl
  | 5, _ => rfl
  | 6, _ => rfl
  | 7, _ => rfl
  | 8, _ => rfl
  | 9, _ => rfl
  | 10, _ => rfl
  | 11, _ => rfl
  | 12, _ => rfl
  | 13, _ => rfl
  | 14, _ => rfl
  | 15, _ => rfl
  | 16, _ => rfl
  | 17, _ => rfl
  | k + 18, h => exact absurd h (by omega)
theorem tdv_8 : ∀ j, j < 2 → defaultValue (tt_8 j) = vp_V [.int 0, .null] j := by
  intro j hj
  match j, hj with
  | 0, _ => rfl
  | 1, _ => rfl
  | k + 2, h => exact absurd h (by omega)
theorem tdv_9 : ∀ j, j < 73 → defaultValue (tt_9 j) = vp_V [.int 0, .null, .null, .int 0, .null, .null, .null, .null, .null, .null, .null, .null, .null, .int 0, .null, .null, .int 0, .int 0, .null, .null, .null, .null, .null, .int 0, .null, .null, .int 0, .null, .null, .int 0, .int 0, .null, .null, .null, .null, .int 0, .null, .null, .null, .null, .int 0, .null, .null, .int 0, .null, .null, .null, .null, .null, .null, .null, .null, .null, .null, .int 0, .null, .int 0, .null, .int 0, .null, .null, .int 0, .null, .null, .int 0, .null, .null, .null, .int 0, .int 0, .int 0, .int 0, .null] j := by
  intro j hj
  match j, hj with
  | 0, _ => rfl
  | 1, _ => rfl
  | 2, _ => rfl
  | 3, _ => rfl
  | 4, _ => rfl
  | 5, _ => rfl
  | 6, _ => rfl
  | 7, _ => rfl
  | 8, _ => rfl
  | 9, _ => rfl
  | 10, _ => rfl
  | 11, _ => rfl
  | 12, _ => rfl
  | 13, _ => rfl
  | 14, _ => rfl
  | 15, _ => rfl
  | 16, _ => rfl
  | 17, _ => rfl
  | 18, _ => rfl
  | 19, _ => rfl
  | 20, _ => rfl
  | 21, _ => rfl
  | 22, _ => rfl
  | 23, _ => rfl
  | 24, _ => rfl
  | 25, _ => rfl
  | 26, _ => rfl
  | 27, _ => rfl
  | 28, _ => rfl
  | 29, _ => rfl
  | 30, _ => rfl
  | 31, _ => rfl
  | 32, _ => rfl
  | 33, _ => rfl
  | 34, _ => rfl
  | 35, _ => rfl
  | 36, _ => rfl
  | 37, _ => rfl
  | 38, _ => rfl
  | 39, _ => rfl
  | 40, _ => rfl
  | 41, _ => rfl
  | 42, _ => rfl
  | 43, _ => rfl
  | 44, _ => rfl
  | 45, _ => rfl
  | 46, _ => rfl
  | 47, _ => rfl
  | 48, _ => rfl
  | 49, _ => rfl
  | 50, _ => rfl
  | 51, _ => rfl
  | 52, _ => rfl
  | 53, _ => rfl
  | 54, _ => rfl
  | 55, _ => rfl
  | 56, _ => rfl
  | 57, _ => rfl
  | 58, _ => rfl
  | 59, _ => rfl
  | 60, _ => rfl
  | 61, _ => rfl
  | 62, _ => rfl
  | 63, _ => rfl
  | 64, _ => rfl
  | 65, _ => rfl
  | 66, _ => rfl
  | 67, _ => rfl
  | 68, _ => rfl
  | 69, _ => rfl
  | 70, _ => rfl
  | 71, _ => rfl
  | 72, _ => rfl
  | k + 73, h => exact absurd h (by omega)
theorem gi_RA_int : ∀ (U : State) (c1 c2 : ClassId), va_RA U c1 .int → va_RA U c2 .int → c1 = c2 := fun _ _ _ h1 h2 => Option.some.inj (h1.symm.trans h2)
theorem gi_RA_byte : ∀ (U : State) (c1 c2 : ClassId), va_RA U c1 .byte → va_RA U c2 .byte → c1 = c2 := fun _ _ _ h1 h2 => Option.some.inj (h1.symm.trans h2)
theorem gi_RA_short : ∀ (U : State) (c1 c2 : ClassId), va_RA U c1 .short → va_RA U c2 .short → c1 = c2 := fun _ _ _ h1 h2 => Option.some.inj (h1.symm.trans h2)
theorem gi_RA_boolean : ∀ (U : State) (c1 c2 : ClassId), va_RA U c1 .boolean → va_RA U c2 .boolean → c1 = c2 := fun _ _ _ h1 h2 => Option.some.inj (h1.symm.trans h2)
theorem tw_obj : Cond.code objectInit ⟨#[0xb1]⟩ 1 none ∈ gx_T := gx_mem (i := 90) (by decide +kernel) (by decide +kernel)
def cp_Ints (cI cB cS cZ : ClassId) (A1 : Int32) (h0 : Nat) (ws : va_W) : Prop := ∃ q1 : Nat, ws = [(h0, .inr (8, [.int A1, .ref q1])), (q1, .inl (cI, 32, .inl (fun _ => 0)))]
set_option maxRecDepth 100000 in
set_option maxHeartbeats 4000000 in
theorem cl_Ints {D : va_G} {cI cB cS cZ : ClassId} {X : gx_X} {h0 : Nat} (hX : gi_K (D, tq_cl, [(cI, .int), (cB, .byte), (cS, .short), (cZ, .boolean)]) X prog_3_method_1_code "TypeLoom$Ints" 2 1 12 1 32) (A1 : Int32) : gi_G (D, tq_cl, [(cI, .int), (cB, .byte), (cS, .short), (cZ, .boolean)]) X (cp_Ints cI cB cS cZ A1 h0) 1 32 [(h0, .inr (8, [.int 0, .null]))] 0 0 0 [(0, .ref h0), (1, .int A1)] [] := by
  refine gi_aload_n hX 0 1 dw_Ints_init_0 rfl rfl rfl ?_
  refine gi_obj hX 4 tw_102 tw_89 tw_obj (Nat.le_of_ble_eq_true rfl) (Nat.le_of_ble_eq_true rfl) dw_Ints_init_1 rfl ?_
  refine gi_aload_n hX 0 5 dw_Ints_init_4 rfl rfl rfl ?_
  refine gi_bipush hX 32 7 dw_Ints_init_5 (by decide) rfl ?_
  refine gi_newa (at_ := .int) (ty := .int) hX (cA := cI) 0 9 32 tw_110 rfl rfl gi_RA_int (fun _ => rfl) (by decide) (by decide) (by decide) (Nat.le_of_ble_eq_true rfl) (Nat.le_of_ble_eq_true rfl) dw_Ints_init_7 rfl (fun q1 => ?_)
  refine gi_put hX 1 12 [.int 0, .ref q1] rfl ti_8 tt_8 tk_8 tn_8 (by decide) tw_104 rfl rfl rfl rfl (Nat.le_of_ble_eq_true rfl) rfl dw_Ints_init_9 rfl ?_
  refine gi_aload_n hX 0 13 dw_Ints_init_12 rfl rfl rfl ?_
  refine gi_iload_n hX 1 14 dw_Ints_init_13 rfl rfl rfl ?_
  refine gi_putF hX 0 17 [.int A1, .ref q1] rfl ti_8 tt_8 tk_8 tn_8 (by decide) tw_103 rfl rfl rfl rfl rfl (Nat.le_of_ble_eq_true rfl) rfl dw_Ints_init_14 rfl ?_
  exact gi_ret hX ⟨q1, rfl⟩ (Nat.le_of_ble_eq_true rfl) (Nat.le_of_ble_eq_true rfl) dw_Ints_init_17
def my_Ints_init : MethodName := ⟨"TypeLoom$Ints", "<init>", "(I)V"⟩
theorem hy_Ints_init : (my_Ints_init.cls ≠ "java/lang/invoke/MethodHandle" ∧ my_Ints_init.cls ≠ "java/lang/invoke/VarHandle") ∧ (parseMethodDescriptor my_Ints_init.desc).map (fun d => d.parameters.length) = some 1 := by decide +kernel
theorem ci_Ints {D : va_G} {cI cB cS cZ : ClassId} (l : Launch) (A1 : Int32) : gi_C l (D, tq_cl, [(cI, .int), (cB, .byte), (cS, .short), (cZ, .boolean)]) my_Ints_init prog_3_method_1_code 2 1 12 1 32 8 [.int 0, .null] [.int A1] (cp_Ints cI cB cS cZ A1) := gi_met (by decide) rfl rfl (fun _ => Nat.le_of_ble_eq_true rfl) (fun X h0 _ hX => cl_Ints hX A1)
def cp_Constructors (cI cB cS cZ : ClassId)  (h0 : Nat) (ws : va_W) : Prop := ∃ q1 q1_1 q2 q1_2 : Nat, ws = [(h0, .inr (1, [.ref q1, .ref q2, .int 0])), (q1, .inr (8, [.int 2048, .ref q1_1])), (q1_1, .inl (cI, 32, .inl (fun _ => 0))), (q2, .inr (8, [.int 2048, .ref q1_2])), (q1_2, .inl (cI, 32, .inl (fun _ => 0)))]
set_option maxRecDepth 100000 in
set_option maxHeartbeats 4000000 in
theorem cl_Constructors {D : va_G} {cI cB cS cZ : ClassId} {X : gx_X} {h0 : Nat} (hX : gi_K (D, tq_cl, [(cI, .int), (cB, .byte), (cS, .short), (cZ, .boolean)]) X prog_2_method_1_code "TypeLoom$Constructors" 1 2 33 4 68)  : gi_G (D, tq_cl, [(cI, .int), (cB, .byte), (cS, .short), (cZ, .boolean)]) X (cp_Constructors cI cB cS cZ  h0) 4 68 [(h0, .inr (1, [.null, .null, .int 0]))] 0 0 0 [(0, .ref h0)] [] := by
  refine gi_aload_n hX 0 1 dw_Constructors_init_0 rfl rfl rfl ?_
  refine gi_obj hX 4 tw_96 tw_89 tw_obj (Nat.le_of_ble_eq_true rfl) (Nat.le_of_ble_eq_true rfl) dw_Constructors_init_1 rfl ?_
  refine gi_aload_n hX 0 5 dw_Constructors_init_4 rfl rfl rfl ?_
  refine gi_new (ci := 8) hX tt_8 [.int 0, .null] 8 rfl ti_8 tk_8 tdv_8 tw_97 tw_98 tw_72 (Nat.le_of_ble_eq_true rfl) (Nat.le_of_ble_eq_true rfl) dw_Constructors_init_5 rfl (fun q1 => ?_)
  refine gi_dup hX 9 dw_Constructors_init_8 rfl rfl ?_
  refine gi_sipush hX 2048 12 dw_Constructors_init_9 (by decide) rfl ?_
  refine gi_call (st := [.ref q1, .ref h0]) hX [.int 2048] 15 (ci_Ints _ 2048) hy_Ints_init rfl tw_101 tw_99 tw_100 tw_72 ⟨(Nat.le_of_ble_eq_true rfl), (Nat.le_of_ble_eq_true rfl)⟩ (Nat.le_of_ble_eq_true rfl) (Nat.le_of_ble_eq_true rfl) (Nat.le_of_ble_eq_true rfl) dw_Constructors_init_12 rfl rfl (fun w1 hw1 => ?_)
  obtain ⟨q1_1, rfl⟩ := hw1
  refine gi_putF hX 0 18 [.ref q1, .null, .int 0] rfl ti_1 tt_1 tk_1 tn_1 (by decide) tw_111 rfl rfl rfl rfl rfl (Nat.le_of_ble_eq_true rfl) rfl dw_Constructors_init_15 rfl ?_
  refine gi_aload_n hX 0 19 dw_Constructors_init_18 rfl rfl rfl ?_
  refine gi_new (ci := 8) hX tt_8 [.int 0, .null] 22 rfl ti_8 tk_8 tdv_8 tw_97 tw_98 tw_72 (Nat.le_of_ble_eq_true rfl) (Nat.le_of_ble_eq_true rfl) dw_Constructors_init_19 rfl (fun q2 => ?_)
  refine gi_dup hX 23 dw_Constructors_init_22 rfl rfl ?_
  refine gi_sipush hX 2048 26 dw_Constructors_init_23 (by decide) rfl ?_
  refine gi_call (st := [.ref q2, .ref h0]) hX [.int 2048] 29 (ci_Ints _ 2048) hy_Ints_init rfl tw_101 tw_99 tw_100 tw_72 ⟨(Nat.le_of_ble_eq_true rfl), (Nat.le_of_ble_eq_true rfl)⟩ (Nat.le_of_ble_eq_true rfl) (Nat.le_of_ble_eq_true rfl) (Nat.le_of_ble_eq_true rfl) dw_Constructors_init_26 rfl rfl (fun w2 hw2 => ?_)
  obtain ⟨q1_2, rfl⟩ := hw2
  refine gi_putF hX 1 32 [.ref q1, .ref q2, .int 0] rfl ti_1 tt_1 tk_1 tn_1 (by decide) tw_112 rfl rfl rfl rfl rfl (Nat.le_of_ble_eq_true rfl) rfl dw_Constructors_init_29 rfl ?_
  refine gi_aload_n hX 0 33 dw_Constructors_init_32 rfl rfl rfl ?_
  refine gi_iconst hX 0 34 dw_Constructors_init_33 (by decide) rfl ?_
  refine gi_put hX 2 37 [.ref q1, .ref q2, .int 0] rfl ti_1 tt_1 tk_1 tn_1 (by decide) tw_113 rfl rfl rfl rfl (Nat.le_of_ble_eq_true rfl) rfl dw_Constructors_init_34 rfl ?_
  exact gi_ret hX ⟨q1, q1_1, q2, q1_2, rfl⟩ (Nat.le_of_ble_eq_true rfl) (Nat.le_of_ble_eq_true rfl) dw_Constructors_init_37
def my_Constructors_init : MethodName := ⟨"TypeLoom$Constructors", "<init>", "()V"⟩
theorem hy_Constructors_init : (my_Constructors_init.cls ≠ "java/lang/invoke/MethodHandle" ∧ my_Constructors_init.cls ≠ "java/lang/invoke/VarHandle") ∧ (parseMethodDescriptor my_Constructors_init.desc).map (fun d => d.parameters.length) = some 0 := by decide +kernel
theorem ci_Constructors {D : va_G} {cI cB cS cZ : ClassId} (l : Launch)  : gi_C l (D, tq_cl, [(cI, .int), (cB, .byte), (cS, .short), (cZ, .boolean)]) my_Constructors_init prog_2_method_1_code 1 2 33 4 68 1 [.null, .null, .int 0] [] (cp_Constructors cI cB cS cZ ) := gi_met (by decide) rfl rfl (fun _ => Nat.le_of_ble_eq_true rfl) (fun X h0 _ hX => cl_Constructors hX )
def cp_Pushed (cI cB cS cZ : ClassId)  (h0 : Nat) (ws : va_W) : Prop := ∃ q1 q1_1 q2 q1_2 : Nat, ws = [(h0, .inr (2, [.ref q1, .ref q2, .int 0, .int 0])), (q1, .inr (8, [.int 128, .ref q1_1])), (q1_1, .inl (cI, 32, .inl (fun _ => 0))), (q2, .inr (8, [.int 128, .ref q1_2])), (q1_2, .inl (cI, 32, .inl (fun _ => 0)))]
set_option maxRecDepth 100000 in
set_option maxHeartbeats 4000000 in
theorem cl_Pushed {D : va_G} {cI cB cS cZ : ClassId} {X : gx_X} {h0 : Nat} (hX : gi_K (D, tq_cl, [(cI, .int), (cB, .byte), (cS, .short), (cZ, .boolean)]) X prog_4_method_1_code "TypeLoom$Pushed" 1 2 33 4 68)  : gi_G (D, tq_cl, [(cI, .int), (cB, .byte), (cS, .short), (cZ, .boolean)]) X (cp_Pushed cI cB cS cZ  h0) 4 68 [(h0, .inr (2, [.null, .null, .int 0, .int 0]))] 0 0 0 [(0, .ref h0)] [] := by
  refine gi_aload_n hX 0 1 dw_Pushed_init_0 rfl rfl rfl ?_
  refine gi_obj hX 4 tw_127 tw_89 tw_obj (Nat.le_of_ble_eq_true rfl) (Nat.le_of_ble_eq_true rfl) dw_Pushed_init_1 rfl ?_
  refine gi_aload_n hX 0 5 dw_Pushed_init_4 rfl rfl rfl ?_
  refine gi_new (ci := 8) hX tt_8 [.int 0, .null] 8 rfl ti_8 tk_8 tdv_8 tw_128 tw_98 tw_72 (Nat.le_of_ble_eq_true rfl) (Nat.le_of_ble_eq_true rfl) dw_Pushed_init_5 rfl (fun q1 => ?_)
  refine gi_dup hX 9 dw_Pushed_init_8 rfl rfl ?_
  refine gi_sipush hX 128 12 dw_Pushed_init_9 (by decide) rfl ?_
  refine gi_call (st := [.ref q1, .ref h0]) hX [.int 128] 15 (ci_Ints _ 128) hy_Ints_init rfl tw_101 tw_129 tw_100 tw_72 ⟨(Nat.le_of_ble_eq_true rfl), (Nat.le_of_ble_eq_true rfl)⟩ (Nat.le_of_ble_eq_true rfl) (Nat.le_of_ble_eq_true rfl) (Nat.le_of_ble_eq_true rfl) dw_Pushed_init_12 rfl rfl (fun w1 hw1 => ?_)
  obtain ⟨q1_1, rfl⟩ := hw1
  refine gi_putF hX 0 18 [.ref q1, .null, .int 0, .int 0] rfl ti_2 tt_2 tk_2 tn_2 (by decide) tw_130 rfl rfl rfl rfl rfl (Nat.le_of_ble_eq_true rfl) rfl dw_Pushed_init_15 rfl ?_
  refine gi_aload_n hX 0 19 dw_Pushed_init_18 rfl rfl rfl ?_
  refine gi_new (ci := 8) hX tt_8 [.int 0, .null] 22 rfl ti_8 tk_8 tdv_8 tw_128 tw_98 tw_72 (Nat.le_of_ble_eq_true rfl) (Nat.le_of_ble_eq_true rfl) dw_Pushed_init_19 rfl (fun q2 => ?_)
  refine gi_dup hX 23 dw_Pushed_init_22 rfl rfl ?_
  refine gi_sipush hX 128 26 dw_Pushed_init_23 (by decide) rfl ?_
  refine gi_call (st := [.ref q2, .ref h0]) hX [.int 128] 29 (ci_Ints _ 128) hy_Ints_init rfl tw_101 tw_129 tw_100 tw_72 ⟨(Nat.le_of_ble_eq_true rfl), (Nat.le_of_ble_eq_true rfl)⟩ (Nat.le_of_ble_eq_true rfl) (Nat.le_of_ble_eq_true rfl) (Nat.le_of_ble_eq_true rfl) dw_Pushed_init_26 rfl rfl (fun w2 hw2 => ?_)
  obtain ⟨q1_2, rfl⟩ := hw2
  refine gi_putF hX 1 32 [.ref q1, .ref q2, .int 0, .int 0] rfl ti_2 tt_2 tk_2 tn_2 (by decide) tw_132 rfl rfl rfl rfl rfl (Nat.le_of_ble_eq_true rfl) rfl dw_Pushed_init_29 rfl ?_
  refine gi_aload_n hX 0 33 dw_Pushed_init_32 rfl rfl rfl ?_
  refine gi_iconst hX 0 34 dw_Pushed_init_33 (by decide) rfl ?_
  refine gi_put hX 2 37 [.ref q1, .ref q2, .int 0, .int 0] rfl ti_2 tt_2 tk_2 tn_2 (by decide) tw_134 rfl rfl rfl rfl (Nat.le_of_ble_eq_true rfl) rfl dw_Pushed_init_34 rfl ?_
  refine gi_aload_n hX 0 38 dw_Pushed_init_37 rfl rfl rfl ?_
  refine gi_iconst hX 0 39 dw_Pushed_init_38 (by decide) rfl ?_
  refine gi_put hX 3 42 [.ref q1, .ref q2, .int 0, .int 0] rfl ti_2 tt_2 tk_2 tn_2 (by decide) tw_136 rfl rfl rfl rfl (Nat.le_of_ble_eq_true rfl) rfl dw_Pushed_init_39 rfl ?_
  exact gi_ret hX ⟨q1, q1_1, q2, q1_2, rfl⟩ (Nat.le_of_ble_eq_true rfl) (Nat.le_of_ble_eq_true rfl) dw_Pushed_init_42
def my_Pushed_init : MethodName := ⟨"TypeLoom$Pushed", "<init>", "()V"⟩
theorem hy_Pushed_init : (my_Pushed_init.cls ≠ "java/lang/invoke/MethodHandle" ∧ my_Pushed_init.cls ≠ "java/lang/invoke/VarHandle") ∧ (parseMethodDescriptor my_Pushed_init.desc).map (fun d => d.parameters.length) = some 0 := by decide +kernel
theorem ci_Pushed {D : va_G} {cI cB cS cZ : ClassId} (l : Launch)  : gi_C l (D, tq_cl, [(cI, .int), (cB, .byte), (cS, .short), (cZ, .boolean)]) my_Pushed_init prog_4_method_1_code 1 2 33 4 68 2 [.null, .null, .int 0, .int 0] [] (cp_Pushed cI cB cS cZ ) := gi_met (by decide) rfl rfl (fun _ => Nat.le_of_ble_eq_true rfl) (fun X h0 _ hX => cl_Pushed hX )
def cp_Web (cI cB cS cZ : ClassId)  (h0 : Nat) (ws : va_W) : Prop := ∃ q1 q1_1 q2 q1_2 q3 q1_3 q4 q1_4 q5 q1_5 q6 q1_6 q7 q1_7 q8 q1_8 q9 q1_9 q10 q1_10 q11 q1_11 q12 q1_12 : Nat, ws = [(h0, .inr (3, [.ref q1, .ref q2, .ref q3, .ref q4, .ref q5, .ref q6, .ref q7, .ref q8, .ref q9, .ref q10, .ref q11, .ref q12, .int 0, .int 0, .int 0, .int 0, .int 0])), (q1, .inr (8, [.int 25600, .ref q1_1])), (q1_1, .inl (cI, 32, .inl (fun _ => 0))), (q2, .inr (8, [.int 25600, .ref q1_2])), (q1_2, .inl (cI, 32, .inl (fun _ => 0))), (q3, .inr (8, [.int 25600, .ref q1_3])), (q1_3, .inl (cI, 32, .inl (fun _ => 0))), (q4, .inr (8, [.int 25600, .ref q1_4])), (q1_4, .inl (cI, 32, .inl (fun _ => 0))), (q5, .inr (8, [.int 25600, .ref q1_5])), (q1_5, .inl (cI, 32, .inl (fun _ => 0))), (q6, .inr (8, [.int 25600, .ref q1_6])), (q1_6, .inl (cI, 32, .inl (fun _ => 0))), (q7, .inr (8, [.int 25600, .ref q1_7])), (q1_7, .inl (cI, 32, .inl (fun _ => 0))), (q8, .inr (8, [.int 25600, .ref q1_8])), (q1_8, .inl (cI, 32, .inl (fun _ => 0))), (q9, .inr (8, [.int 25600, .ref q1_9])), (q1_9, .inl (cI, 32, .inl (fun _ => 0))), (q10, .inr (8, [.int 131072, .ref q1_10])), (q1_10, .inl (cI, 32, .inl (fun _ => 0))), (q11, .inr (8, [.int 131072, .ref q1_11])), (q1_11, .inl (cI, 32, .inl (fun _ => 0))), (q12, .inr (8, [.int 24576, .ref q1_12])), (q1_12, .inl (cI, 32, .inl (fun _ => 0)))]
set_option maxRecDepth 100000 in
set_option maxHeartbeats 4000000 in
theorem cl_Web {D : va_G} {cI cB cS cZ : ClassId} {X : gx_X} {h0 : Nat} (hX : gi_K (D, tq_cl, [(cI, .int), (cB, .byte), (cS, .short), (cZ, .boolean)]) X prog_9_method_1_code "TypeLoom$Web" 1 2 33 24 408)  : gi_G (D, tq_cl, [(cI, .int), (cB, .byte), (cS, .short), (cZ, .boolean)]) X (cp_Web cI cB cS cZ  h0) 24 408 [(h0, .inr (3, [.null, .null, .null, .null, .null, .null, .null, .null, .null, .null, .null, .null, .int 0, .int 0, .int 0, .int 0, .int 0]))] 0 0 0 [(0, .ref h0)] [] := by
  refine gi_aload_n hX 0 1 dw_Web_init_0 rfl rfl rfl ?_
  refine gi_obj hX 4 tw_152 tw_89 tw_obj (Nat.le_of_ble_eq_true rfl) (Nat.le_of_ble_eq_true rfl) dw_Web_init_1 rfl ?_
  refine gi_aload_n hX 0 5 dw_Web_init_4 rfl rfl rfl ?_
  refine gi_new (ci := 8) hX tt_8 [.int 0, .null] 8 rfl ti_8 tk_8 tdv_8 tw_153 tw_98 tw_72 (Nat.le_of_ble_eq_true rfl) (Nat.le_of_ble_eq_true rfl) dw_Web_init_5 rfl (fun q1 => ?_)
  refine gi_dup hX 9 dw_Web_init_8 rfl rfl ?_
  refine gi_sipush hX 25600 12 dw_Web_init_9 (by decide) rfl ?_
  refine gi_call (st := [.ref q1, .ref h0]) hX [.int 25600] 15 (ci_Ints _ 25600) hy_Ints_init rfl tw_101 tw_154 tw_100 tw_72 ⟨(Nat.le_of_ble_eq_true rfl), (Nat.le_of_ble_eq_true rfl)⟩ (Nat.le_of_ble_eq_true rfl) (Nat.le_of_ble_eq_true rfl) (Nat.le_of_ble_eq_true rfl) dw_Web_init_12 rfl rfl (fun w1 hw1 => ?_)
  obtain ⟨q1_1, rfl⟩ := hw1
  refine gi_putF hX 0 18 [.ref q1, .null, .null, .null, .null, .null, .null, .null, .null, .null, .null, .null, .int 0, .int 0, .int 0, .int 0, .int 0] rfl ti_3 tt_3 tk_3 tn_3 (by decide) tw_156 rfl rfl rfl rfl rfl (Nat.le_of_ble_eq_true rfl) rfl dw_Web_init_15 rfl ?_
  refine gi_aload_n hX 0 19 dw_Web_init_18 rfl rfl rfl ?_
  refine gi_new (ci := 8) hX tt_8 [.int 0, .null] 22 rfl ti_8 tk_8 tdv_8 tw_153 tw_98 tw_72 (Nat.le_of_ble_eq_true rfl) (Nat.le_of_ble_eq_true rfl) dw_Web_init_19 rfl (fun q2 => ?_)
  refine gi_dup hX 23 dw_Web_init_22 rfl rfl ?_
  refine gi_sipush hX 25600 26 dw_Web_init_23 (by decide) rfl ?_
  refine gi_call (st := [.ref q2, .ref h0]) hX [.int 25600] 29 (ci_Ints _ 25600) hy_Ints_init rfl tw_101 tw_154 tw_100 tw_72 ⟨(Nat.le_of_ble_eq_true rfl), (Nat.le_of_ble_eq_true rfl)⟩ (Nat.le_of_ble_eq_true rfl) (Nat.le_of_ble_eq_true rfl) (Nat.le_of_ble_eq_true rfl) dw_Web_init_26 rfl rfl (fun w2 hw2 => ?_)
  obtain ⟨q1_2, rfl⟩ := hw2
  refine gi_putF hX 1 32 [.ref q1, .ref q2, .null, .null, .null, .null, .null, .null, .null, .null, .null, .null, .int 0, .int 0, .int 0, .int 0, .int 0] rfl ti_3 tt_3 tk_3 tn_3 (by decide) tw_162 rfl rfl rfl rfl rfl (Nat.le_of_ble_eq_true rfl) rfl dw_Web_init_29 rfl ?_
  refine gi_aload_n hX 0 33 dw_Web_init_32 rfl rfl rfl ?_
  refine gi_new (ci := 8) hX tt_8 [.int 0, .null] 36 rfl ti_8 tk_8 tdv_8 tw_153 tw_98 tw_72 (Nat.le_of_ble_eq_true rfl) (Nat.le_of_ble_eq_true rfl) dw_Web_init_33 rfl (fun q3 => ?_)
  refine gi_dup hX 37 dw_Web_init_36 rfl rfl ?_
  refine gi_sipush hX 25600 40 dw_Web_init_37 (by decide) rfl ?_
  refine gi_call (st := [.ref q3, .ref h0]) hX [.int 25600] 43 (ci_Ints _ 25600) hy_Ints_init rfl tw_101 tw_154 tw_100 tw_72 ⟨(Nat.le_of_ble_eq_true rfl), (Nat.le_of_ble_eq_true rfl)⟩ (Nat.le_of_ble_eq_true rfl) (Nat.le_of_ble_eq_true rfl) (Nat.le_of_ble_eq_true rfl) dw_Web_init_40 rfl rfl (fun w3 hw3 => ?_)
  obtain ⟨q1_3, rfl⟩ := hw3
  refine gi_putF hX 2 46 [.ref q1, .ref q2, .ref q3, .null, .null, .null, .null, .null, .null, .null, .null, .null, .int 0, .int 0, .int 0, .int 0, .int 0] rfl ti_3 tt_3 tk_3 tn_3 (by decide) tw_168 rfl rfl rfl rfl rfl (Nat.le_of_ble_eq_true rfl) rfl dw_Web_init_43 rfl ?_
  refine gi_aload_n hX 0 47 dw_Web_init_46 rfl rfl rfl ?_
  refine gi_new (ci := 8) hX tt_8 [.int 0, .null] 50 rfl ti_8 tk_8 tdv_8 tw_153 tw_98 tw_72 (Nat.le_of_ble_eq_true rfl) (Nat.le_of_ble_eq_true rfl) dw_Web_init_47 rfl (fun q4 => ?_)
  refine gi_dup hX 51 dw_Web_init_50 rfl rfl ?_
  refine gi_sipush hX 25600 54 dw_Web_init_51 (by decide) rfl ?_
  refine gi_call (st := [.ref q4, .ref h0]) hX [.int 25600] 57 (ci_Ints _ 25600) hy_Ints_init rfl tw_101 tw_154 tw_100 tw_72 ⟨(Nat.le_of_ble_eq_true rfl), (Nat.le_of_ble_eq_true rfl)⟩ (Nat.le_of_ble_eq_true rfl) (Nat.le_of_ble_eq_true rfl) (Nat.le_of_ble_eq_true rfl) dw_Web_init_54 rfl rfl (fun w4 hw4 => ?_)
  obtain ⟨q1_4, rfl⟩ := hw4
  refine gi_putF hX 3 60 [.ref q1, .ref q2, .ref q3, .ref q4, .null, .null, .null, .null, .null, .null, .null, .null, .int 0, .int 0, .int 0, .int 0, .int 0] rfl ti_3 tt_3 tk_3 tn_3 (by decide) tw_172 rfl rfl rfl rfl rfl (Nat.le_of_ble_eq_true rfl) rfl dw_Web_init_57 rfl ?_
  refine gi_aload_n hX 0 61 dw_Web_init_60 rfl rfl rfl ?_
  refine gi_new (ci := 8) hX tt_8 [.int 0, .null] 64 rfl ti_8 tk_8 tdv_8 tw_153 tw_98 tw_72 (Nat.le_of_ble_eq_true rfl) (Nat.le_of_ble_eq_true rfl) dw_Web_init_61 rfl (fun q5 => ?_)
  refine gi_dup hX 65 dw_Web_init_64 rfl rfl ?_
  refine gi_sipush hX 25600 68 dw_Web_init_65 (by decide) rfl ?_
  refine gi_call (st := [.ref q5, .ref h0]) hX [.int 25600] 71 (ci_Ints _ 25600) hy_Ints_init rfl tw_101 tw_154 tw_100 tw_72 ⟨(Nat.le_of_ble_eq_true rfl), (Nat.le_of_ble_eq_true rfl)⟩ (Nat.le_of_ble_eq_true rfl) (Nat.le_of_ble_eq_true rfl) (Nat.le_of_ble_eq_true rfl) dw_Web_init_68 rfl rfl (fun w5 hw5 => ?_)
  obtain ⟨q1_5, rfl⟩ := hw5
  refine gi_putF hX 4 74 [.ref q1, .ref q2, .ref q3, .ref q4, .ref q5, .null, .null, .null, .null, .null, .null, .null, .int 0, .int 0, .int 0, .int 0, .int 0] rfl ti_3 tt_3 tk_3 tn_3 (by decide) tw_176 rfl rfl rfl rfl rfl (Nat.le_of_ble_eq_true rfl) rfl dw_Web_init_71 rfl ?_
  refine gi_aload_n hX 0 75 dw_Web_init_74 rfl rfl rfl ?_
  refine gi_new (ci := 8) hX tt_8 [.int 0, .null] 78 rfl ti_8 tk_8 tdv_8 tw_153 tw_98 tw_72 (Nat.le_of_ble_eq_true rfl) (Nat.le_of_ble_eq_true rfl) dw_Web_init_75 rfl (fun q6 => ?_)
  refine gi_dup hX 79 dw_Web_init_78 rfl rfl ?_
  refine gi_sipush hX 25600 82 dw_Web_init_79 (by decide) rfl ?_
  refine gi_call (st := [.ref q6, .ref h0]) hX [.int 25600] 85 (ci_Ints _ 25600) hy_Ints_init rfl tw_101 tw_154 tw_100 tw_72 ⟨(Nat.le_of_ble_eq_true rfl), (Nat.le_of_ble_eq_true rfl)⟩ (Nat.le_of_ble_eq_true rfl) (Nat.le_of_ble_eq_true rfl) (Nat.le_of_ble_eq_true rfl) dw_Web_init_82 rfl rfl (fun w6 hw6 => ?_)
  obtain ⟨q1_6, rfl⟩ := hw6
  refine gi_putF hX 5 88 [.ref q1, .ref q2, .ref q3, .ref q4, .ref q5, .ref q6, .null, .null, .null, .null, .null, .null, .int 0, .int 0, .int 0, .int 0, .int 0] rfl ti_3 tt_3 tk_3 tn_3 (by decide) tw_178 rfl rfl rfl rfl rfl (Nat.le_of_ble_eq_true rfl) rfl dw_Web_init_85 rfl ?_
  refine gi_aload_n hX 0 89 dw_Web_init_88 rfl rfl rfl ?_
  refine gi_new (ci := 8) hX tt_8 [.int 0, .null] 92 rfl ti_8 tk_8 tdv_8 tw_153 tw_98 tw_72 (Nat.le_of_ble_eq_true rfl) (Nat.le_of_ble_eq_true rfl) dw_Web_init_89 rfl (fun q7 => ?_)
  refine gi_dup hX 93 dw_Web_init_92 rfl rfl ?_
  refine gi_sipush hX 25600 96 dw_Web_init_93 (by decide) rfl ?_
  refine gi_call (st := [.ref q7, .ref h0]) hX [.int 25600] 99 (ci_Ints _ 25600) hy_Ints_init rfl tw_101 tw_154 tw_100 tw_72 ⟨(Nat.le_of_ble_eq_true rfl), (Nat.le_of_ble_eq_true rfl)⟩ (Nat.le_of_ble_eq_true rfl) (Nat.le_of_ble_eq_true rfl) (Nat.le_of_ble_eq_true rfl) dw_Web_init_96 rfl rfl (fun w7 hw7 => ?_)
  obtain ⟨q1_7, rfl⟩ := hw7
  refine gi_putF hX 6 102 [.ref q1, .ref q2, .ref q3, .ref q4, .ref q5, .ref q6, .ref q7, .null, .null, .null, .null, .null, .int 0, .int 0, .int 0, .int 0, .int 0] rfl ti_3 tt_3 tk_3 tn_3 (by decide) tw_181 rfl rfl rfl rfl rfl (Nat.le_of_ble_eq_true rfl) rfl dw_Web_init_99 rfl ?_
  refine gi_aload_n hX 0 103 dw_Web_init_102 rfl rfl rfl ?_
  refine gi_new (ci := 8) hX tt_8 [.int 0, .null] 106 rfl ti_8 tk_8 tdv_8 tw_153 tw_98 tw_72 (Nat.le_of_ble_eq_true rfl) (Nat.le_of_ble_eq_true rfl) dw_Web_init_103 rfl (fun q8 => ?_)
  refine gi_dup hX 107 dw_Web_init_106 rfl rfl ?_
  refine gi_sipush hX 25600 110 dw_Web_init_107 (by decide) rfl ?_
  refine gi_call (st := [.ref q8, .ref h0]) hX [.int 25600] 113 (ci_Ints _ 25600) hy_Ints_init rfl tw_101 tw_154 tw_100 tw_72 ⟨(Nat.le_of_ble_eq_true rfl), (Nat.le_of_ble_eq_true rfl)⟩ (Nat.le_of_ble_eq_true rfl) (Nat.le_of_ble_eq_true rfl) (Nat.le_of_ble_eq_true rfl) dw_Web_init_110 rfl rfl (fun w8 hw8 => ?_)
  obtain ⟨q1_8, rfl⟩ := hw8
  refine gi_putF hX 7 116 [.ref q1, .ref q2, .ref q3, .ref q4, .ref q5, .ref q6, .ref q7, .ref q8, .null, .null, .null, .null, .int 0, .int 0, .int 0, .int 0, .int 0] rfl ti_3 tt_3 tk_3 tn_3 (by decide) tw_185 rfl rfl rfl rfl rfl (Nat.le_of_ble_eq_true rfl) rfl dw_Web_init_113 rfl ?_
  refine gi_aload_n hX 0 117 dw_Web_init_116 rfl rfl rfl ?_
  refine gi_new (ci := 8) hX tt_8 [.int 0, .null] 120 rfl ti_8 tk_8 tdv_8 tw_153 tw_98 tw_72 (Nat.le_of_ble_eq_true rfl) (Nat.le_of_ble_eq_true rfl) dw_Web_init_117 rfl (fun q9 => ?_)
  refine gi_dup hX 121 dw_Web_init_120 rfl rfl ?_
  refine gi_sipush hX 25600 124 dw_Web_init_121 (by decide) rfl ?_
  refine gi_call (st := [.ref q9, .ref h0]) hX [.int 25600] 127 (ci_Ints _ 25600) hy_Ints_init rfl tw_101 tw_154 tw_100 tw_72 ⟨(Nat.le_of_ble_eq_true rfl), (Nat.le_of_ble_eq_true rfl)⟩ (Nat.le_of_ble_eq_true rfl) (Nat.le_of_ble_eq_true rfl) (Nat.le_of_ble_eq_true rfl) dw_Web_init_124 rfl rfl (fun w9 hw9 => ?_)
  obtain ⟨q1_9, rfl⟩ := hw9
  refine gi_putF hX 8 130 [.ref q1, .ref q2, .ref q3, .ref q4, .ref q5, .ref q6, .ref q7, .ref q8, .ref q9, .null, .null, .null, .int 0, .int 0, .int 0, .int 0, .int 0] rfl ti_3 tt_3 tk_3 tn_3 (by decide) tw_187 rfl rfl rfl rfl rfl (Nat.le_of_ble_eq_true rfl) rfl dw_Web_init_127 rfl ?_
  refine gi_aload_n hX 0 131 dw_Web_init_130 rfl rfl rfl ?_
  refine gi_new (ci := 8) hX tt_8 [.int 0, .null] 134 rfl ti_8 tk_8 tdv_8 tw_153 tw_98 tw_72 (Nat.le_of_ble_eq_true rfl) (Nat.le_of_ble_eq_true rfl) dw_Web_init_131 rfl (fun q10 => ?_)
  refine gi_dup hX 135 dw_Web_init_134 rfl rfl ?_
  refine gi_ldc hX 131072 137 dw_Web_init_135 tw_155 rfl ?_
  refine gi_call (st := [.ref q10, .ref h0]) hX [.int 131072] 140 (ci_Ints _ 131072) hy_Ints_init rfl tw_101 tw_154 tw_100 tw_72 ⟨(Nat.le_of_ble_eq_true rfl), (Nat.le_of_ble_eq_true rfl)⟩ (Nat.le_of_ble_eq_true rfl) (Nat.le_of_ble_eq_true rfl) (Nat.le_of_ble_eq_true rfl) dw_Web_init_137 rfl rfl (fun w10 hw10 => ?_)
  obtain ⟨q1_10, rfl⟩ := hw10
  refine gi_putF hX 9 143 [.ref q1, .ref q2, .ref q3, .ref q4, .ref q5, .ref q6, .ref q7, .ref q8, .ref q9, .ref q10, .null, .null, .int 0, .int 0, .int 0, .int 0, .int 0] rfl ti_3 tt_3 tk_3 tn_3 (by decide) tw_189 rfl rfl rfl rfl rfl (Nat.le_of_ble_eq_true rfl) rfl dw_Web_init_140 rfl ?_
  refine gi_aload_n hX 0 144 dw_Web_init_143 rfl rfl rfl ?_
  refine gi_new (ci := 8) hX tt_8 [.int 0, .null] 147 rfl ti_8 tk_8 tdv_8 tw_153 tw_98 tw_72 (Nat.le_of_ble_eq_true rfl) (Nat.le_of_ble_eq_true rfl) dw_Web_init_144 rfl (fun q11 => ?_)
  refine gi_dup hX 148 dw_Web_init_147 rfl rfl ?_
  refine gi_ldc hX 131072 150 dw_Web_init_148 tw_155 rfl ?_
  refine gi_call (st := [.ref q11, .ref h0]) hX [.int 131072] 153 (ci_Ints _ 131072) hy_Ints_init rfl tw_101 tw_154 tw_100 tw_72 ⟨(Nat.le_of_ble_eq_true rfl), (Nat.le_of_ble_eq_true rfl)⟩ (Nat.le_of_ble_eq_true rfl) (Nat.le_of_ble_eq_true rfl) (Nat.le_of_ble_eq_true rfl) dw_Web_init_150 rfl rfl (fun w11 hw11 => ?_)
  obtain ⟨q1_11, rfl⟩ := hw11
  refine gi_putF hX 10 156 [.ref q1, .ref q2, .ref q3, .ref q4, .ref q5, .ref q6, .ref q7, .ref q8, .ref q9, .ref q10, .ref q11, .null, .int 0, .int 0, .int 0, .int 0, .int 0] rfl ti_3 tt_3 tk_3 tn_3 (by decide) tw_195 rfl rfl rfl rfl rfl (Nat.le_of_ble_eq_true rfl) rfl dw_Web_init_153 rfl ?_
  refine gi_aload_n hX 0 157 dw_Web_init_156 rfl rfl rfl ?_
  refine gi_new (ci := 8) hX tt_8 [.int 0, .null] 160 rfl ti_8 tk_8 tdv_8 tw_153 tw_98 tw_72 (Nat.le_of_ble_eq_true rfl) (Nat.le_of_ble_eq_true rfl) dw_Web_init_157 rfl (fun q12 => ?_)
  refine gi_dup hX 161 dw_Web_init_160 rfl rfl ?_
  refine gi_sipush hX 24576 164 dw_Web_init_161 (by decide) rfl ?_
  refine gi_call (st := [.ref q12, .ref h0]) hX [.int 24576] 167 (ci_Ints _ 24576) hy_Ints_init rfl tw_101 tw_154 tw_100 tw_72 ⟨(Nat.le_of_ble_eq_true rfl), (Nat.le_of_ble_eq_true rfl)⟩ (Nat.le_of_ble_eq_true rfl) (Nat.le_of_ble_eq_true rfl) (Nat.le_of_ble_eq_true rfl) dw_Web_init_164 rfl rfl (fun w12 hw12 => ?_)
  obtain ⟨q1_12, rfl⟩ := hw12
  refine gi_putF hX 11 170 [.ref q1, .ref q2, .ref q3, .ref q4, .ref q5, .ref q6, .ref q7, .ref q8, .ref q9, .ref q10, .ref q11, .ref q12, .int 0, .int 0, .int 0, .int 0, .int 0] rfl ti_3 tt_3 tk_3 tn_3 (by decide) tw_198 rfl rfl rfl rfl rfl (Nat.le_of_ble_eq_true rfl) rfl dw_Web_init_167 rfl ?_
  refine gi_aload_n hX 0 171 dw_Web_init_170 rfl rfl rfl ?_
  refine gi_iconst hX 0 172 dw_Web_init_171 (by decide) rfl ?_
  refine gi_put hX 12 175 [.ref q1, .ref q2, .ref q3, .ref q4, .ref q5, .ref q6, .ref q7, .ref q8, .ref q9, .ref q10, .ref q11, .ref q12, .int 0, .int 0, .int 0, .int 0, .int 0] rfl ti_3 tt_3 tk_3 tn_3 (by decide) tw_199 rfl rfl rfl rfl (Nat.le_of_ble_eq_true rfl) rfl dw_Web_init_172 rfl ?_
  refine gi_aload_n hX 0 176 dw_Web_init_175 rfl rfl rfl ?_
  refine gi_iconst hX 0 177 dw_Web_init_176 (by decide) rfl ?_
  refine gi_put hX 13 180 [.ref q1, .ref q2, .ref q3, .ref q4, .ref q5, .ref q6, .ref q7, .ref q8, .ref q9, .ref q10, .ref q11, .ref q12, .int 0, .int 0, .int 0, .int 0, .int 0] rfl ti_3 tt_3 tk_3 tn_3 (by decide) tw_201 rfl rfl rfl rfl (Nat.le_of_ble_eq_true rfl) rfl dw_Web_init_177 rfl ?_
  refine gi_aload_n hX 0 181 dw_Web_init_180 rfl rfl rfl ?_
  refine gi_iconst hX 0 182 dw_Web_init_181 (by decide) rfl ?_
  refine gi_put hX 14 185 [.ref q1, .ref q2, .ref q3, .ref q4, .ref q5, .ref q6, .ref q7, .ref q8, .ref q9, .ref q10, .ref q11, .ref q12, .int 0, .int 0, .int 0, .int 0, .int 0] rfl ti_3 tt_3 tk_3 tn_3 (by decide) tw_203 rfl rfl rfl rfl (Nat.le_of_ble_eq_true rfl) rfl dw_Web_init_182 rfl ?_
  refine gi_aload_n hX 0 186 dw_Web_init_185 rfl rfl rfl ?_
  refine gi_iconst hX 0 187 dw_Web_init_186 (by decide) rfl ?_
  refine gi_put hX 15 190 [.ref q1, .ref q2, .ref q3, .ref q4, .ref q5, .ref q6, .ref q7, .ref q8, .ref q9, .ref q10, .ref q11, .ref q12, .int 0, .int 0, .int 0, .int 0, .int 0] rfl ti_3 tt_3 tk_3 tn_3 (by decide) tw_205 rfl rfl rfl rfl (Nat.le_of_ble_eq_true rfl) rfl dw_Web_init_187 rfl ?_
  refine gi_aload_n hX 0 191 dw_Web_init_190 rfl rfl rfl ?_
  refine gi_iconst hX 0 192 dw_Web_init_191 (by decide) rfl ?_
  refine gi_put hX 16 195 [.ref q1, .ref q2, .ref q3, .ref q4, .ref q5, .ref q6, .ref q7, .ref q8, .ref q9, .ref q10, .ref q11, .ref q12, .int 0, .int 0, .int 0, .int 0, .int 0] rfl ti_3 tt_3 tk_3 tn_3 (by decide) tw_207 rfl rfl rfl rfl (Nat.le_of_ble_eq_true rfl) rfl dw_Web_init_192 rfl ?_
  exact gi_ret hX ⟨q1, q1_1, q2, q1_2, q3, q1_3, q4, q1_4, q5, q1_5, q6, q1_6, q7, q1_7, q8, q1_8, q9, q1_9, q10, q1_10, q11, q1_11, q12, q1_12, rfl⟩ (Nat.le_of_ble_eq_true rfl) (Nat.le_of_ble_eq_true rfl) dw_Web_init_195
def my_Web_init : MethodName := ⟨"TypeLoom$Web", "<init>", "()V"⟩
theorem hy_Web_init : (my_Web_init.cls ≠ "java/lang/invoke/MethodHandle" ∧ my_Web_init.cls ≠ "java/lang/invoke/VarHandle") ∧ (parseMethodDescriptor my_Web_init.desc).map (fun d => d.parameters.length) = some 0 := by decide +kernel
theorem ci_Web {D : va_G} {cI cB cS cZ : ClassId} (l : Launch)  : gi_C l (D, tq_cl, [(cI, .int), (cB, .byte), (cS, .short), (cZ, .boolean)]) my_Web_init prog_9_method_1_code 1 2 33 24 408 3 [.null, .null, .null, .null, .null, .null, .null, .null, .null, .null, .null, .null, .int 0, .int 0, .int 0, .int 0, .int 0] [] (cp_Web cI cB cS cZ ) := gi_met (by decide) rfl rfl (fun _ => Nat.le_of_ble_eq_true rfl) (fun X h0 _ hX => cl_Web hX )
def cp_Walk (cI cB cS cZ : ClassId) (A1 : Nat) (A2 : Nat) (h0 : Nat) (ws : va_W) : Prop := ∃ q1 q1_1 q2 q1_2 q3 q1_3 q4 q1_4 : Nat, ws = [(h0, .inr (4, [.ref A1, .ref A2, .ref q1, .ref q2, .ref q3, .ref q4, .int 0, .int 0, .int 1])), (q1, .inr (8, [.int 25600, .ref q1_1])), (q1_1, .inl (cI, 32, .inl (fun _ => 0))), (q2, .inr (8, [.int 25600, .ref q1_2])), (q1_2, .inl (cI, 32, .inl (fun _ => 0))), (q3, .inr (8, [.int 25600, .ref q1_3])), (q1_3, .inl (cI, 32, .inl (fun _ => 0))), (q4, .inr (8, [.int 25600, .ref q1_4])), (q1_4, .inl (cI, 32, .inl (fun _ => 0)))]
set_option maxRecDepth 100000 in
set_option maxHeartbeats 4000000 in
theorem cl_Walk {D : va_G} {cI cB cS cZ : ClassId} {X : gx_X} {h0 : Nat} (hX : gi_K (D, tq_cl, [(cI, .int), (cB, .byte), (cS, .short), (cZ, .boolean)]) X prog_8_method_1_code "TypeLoom$Walk" 3 2 33 8 136) (A1 : Nat) (A2 : Nat) : gi_G (D, tq_cl, [(cI, .int), (cB, .byte), (cS, .short), (cZ, .boolean)]) X (cp_Walk cI cB cS cZ A1 A2 h0) 8 136 [(h0, .inr (4, [.null, .null, .null, .null, .null, .null, .int 0, .int 0, .int 0]))] 0 0 0 [(0, .ref h0), (1, .ref A1), (2, .ref A2)] [] := by
  refine gi_aload_n hX 0 1 dw_Walk_init_0 rfl rfl rfl ?_
  refine gi_obj hX 4 tw_249 tw_89 tw_obj (Nat.le_of_ble_eq_true rfl) (Nat.le_of_ble_eq_true rfl) dw_Walk_init_1 rfl ?_
  refine gi_aload_n hX 0 5 dw_Walk_init_4 rfl rfl rfl ?_
  refine gi_new (ci := 8) hX tt_8 [.int 0, .null] 8 rfl ti_8 tk_8 tdv_8 tw_250 tw_98 tw_72 (Nat.le_of_ble_eq_true rfl) (Nat.le_of_ble_eq_true rfl) dw_Walk_init_5 rfl (fun q1 => ?_)
  refine gi_dup hX 9 dw_Walk_init_8 rfl rfl ?_
  refine gi_sipush hX 25600 12 dw_Walk_init_9 (by decide) rfl ?_
  refine gi_call (st := [.ref q1, .ref h0]) hX [.int 25600] 15 (ci_Ints _ 25600) hy_Ints_init rfl tw_101 tw_251 tw_100 tw_72 ⟨(Nat.le_of_ble_eq_true rfl), (Nat.le_of_ble_eq_true rfl)⟩ (Nat.le_of_ble_eq_true rfl) (Nat.le_of_ble_eq_true rfl) (Nat.le_of_ble_eq_true rfl) dw_Walk_init_12 rfl rfl (fun w1 hw1 => ?_)
  obtain ⟨q1_1, rfl⟩ := hw1
  refine gi_putF hX 2 18 [.null, .null, .ref q1, .null, .null, .null, .int 0, .int 0, .int 0] rfl ti_4 tt_4 tk_4 tn_4 (by decide) tw_254 rfl rfl rfl rfl rfl (Nat.le_of_ble_eq_true rfl) rfl dw_Walk_init_15 rfl ?_
  refine gi_aload_n hX 0 19 dw_Walk_init_18 rfl rfl rfl ?_
  refine gi_new (ci := 8) hX tt_8 [.int 0, .null] 22 rfl ti_8 tk_8 tdv_8 tw_250 tw_98 tw_72 (Nat.le_of_ble_eq_true rfl) (Nat.le_of_ble_eq_true rfl) dw_Walk_init_19 rfl (fun q2 => ?_)
  refine gi_dup hX 23 dw_Walk_init_22 rfl rfl ?_
  refine gi_sipush hX 25600 26 dw_Walk_init_23 (by decide) rfl ?_
  refine gi_call (st := [.ref q2, .ref h0]) hX [.int 25600] 29 (ci_Ints _ 25600) hy_Ints_init rfl tw_101 tw_251 tw_100 tw_72 ⟨(Nat.le_of_ble_eq_true rfl), (Nat.le_of_ble_eq_true rfl)⟩ (Nat.le_of_ble_eq_true rfl) (Nat.le_of_ble_eq_true rfl) (Nat.le_of_ble_eq_true rfl) dw_Walk_init_26 rfl rfl (fun w2 hw2 => ?_)
  obtain ⟨q1_2, rfl⟩ := hw2
  refine gi_putF hX 3 32 [.null, .null, .ref q1, .ref q2, .null, .null, .int 0, .int 0, .int 0] rfl ti_4 tt_4 tk_4 tn_4 (by decide) tw_255 rfl rfl rfl rfl rfl (Nat.le_of_ble_eq_true rfl) rfl dw_Walk_init_29 rfl ?_
  refine gi_aload_n hX 0 33 dw_Walk_init_32 rfl rfl rfl ?_
  refine gi_new (ci := 8) hX tt_8 [.int 0, .null] 36 rfl ti_8 tk_8 tdv_8 tw_250 tw_98 tw_72 (Nat.le_of_ble_eq_true rfl) (Nat.le_of_ble_eq_true rfl) dw_Walk_init_33 rfl (fun q3 => ?_)
  refine gi_dup hX 37 dw_Walk_init_36 rfl rfl ?_
  refine gi_sipush hX 25600 40 dw_Walk_init_37 (by decide) rfl ?_
  refine gi_call (st := [.ref q3, .ref h0]) hX [.int 25600] 43 (ci_Ints _ 25600) hy_Ints_init rfl tw_101 tw_251 tw_100 tw_72 ⟨(Nat.le_of_ble_eq_true rfl), (Nat.le_of_ble_eq_true rfl)⟩ (Nat.le_of_ble_eq_true rfl) (Nat.le_of_ble_eq_true rfl) (Nat.le_of_ble_eq_true rfl) dw_Walk_init_40 rfl rfl (fun w3 hw3 => ?_)
  obtain ⟨q1_3, rfl⟩ := hw3
  refine gi_putF hX 4 46 [.null, .null, .ref q1, .ref q2, .ref q3, .null, .int 0, .int 0, .int 0] rfl ti_4 tt_4 tk_4 tn_4 (by decide) tw_256 rfl rfl rfl rfl rfl (Nat.le_of_ble_eq_true rfl) rfl dw_Walk_init_43 rfl ?_
  refine gi_aload_n hX 0 47 dw_Walk_init_46 rfl rfl rfl ?_
  refine gi_new (ci := 8) hX tt_8 [.int 0, .null] 50 rfl ti_8 tk_8 tdv_8 tw_250 tw_98 tw_72 (Nat.le_of_ble_eq_true rfl) (Nat.le_of_ble_eq_true rfl) dw_Walk_init_47 rfl (fun q4 => ?_)
  refine gi_dup hX 51 dw_Walk_init_50 rfl rfl ?_
  refine gi_sipush hX 25600 54 dw_Walk_init_51 (by decide) rfl ?_
  refine gi_call (st := [.ref q4, .ref h0]) hX [.int 25600] 57 (ci_Ints _ 25600) hy_Ints_init rfl tw_101 tw_251 tw_100 tw_72 ⟨(Nat.le_of_ble_eq_true rfl), (Nat.le_of_ble_eq_true rfl)⟩ (Nat.le_of_ble_eq_true rfl) (Nat.le_of_ble_eq_true rfl) (Nat.le_of_ble_eq_true rfl) dw_Walk_init_54 rfl rfl (fun w4 hw4 => ?_)
  obtain ⟨q1_4, rfl⟩ := hw4
  refine gi_putF hX 5 60 [.null, .null, .ref q1, .ref q2, .ref q3, .ref q4, .int 0, .int 0, .int 0] rfl ti_4 tt_4 tk_4 tn_4 (by decide) tw_257 rfl rfl rfl rfl rfl (Nat.le_of_ble_eq_true rfl) rfl dw_Walk_init_57 rfl ?_
  refine gi_aload_n hX 0 61 dw_Walk_init_60 rfl rfl rfl ?_
  refine gi_iconst hX 0 62 dw_Walk_init_61 (by decide) rfl ?_
  refine gi_put hX 6 65 [.null, .null, .ref q1, .ref q2, .ref q3, .ref q4, .int 0, .int 0, .int 0] rfl ti_4 tt_4 tk_4 tn_4 (by decide) tw_260 rfl rfl rfl rfl (Nat.le_of_ble_eq_true rfl) rfl dw_Walk_init_62 rfl ?_
  refine gi_aload_n hX 0 66 dw_Walk_init_65 rfl rfl rfl ?_
  refine gi_iconst hX 0 67 dw_Walk_init_66 (by decide) rfl ?_
  refine gi_put hX 7 70 [.null, .null, .ref q1, .ref q2, .ref q3, .ref q4, .int 0, .int 0, .int 0] rfl ti_4 tt_4 tk_4 tn_4 (by decide) tw_263 rfl rfl rfl rfl (Nat.le_of_ble_eq_true rfl) rfl dw_Walk_init_67 rfl ?_
  refine gi_aload_n hX 0 71 dw_Walk_init_70 rfl rfl rfl ?_
  refine gi_iconst hX 1 72 dw_Walk_init_71 (by decide) rfl ?_
  refine gi_put hX 8 75 [.null, .null, .ref q1, .ref q2, .ref q3, .ref q4, .int 0, .int 0, .int 1] rfl ti_4 tt_4 tk_4 tn_4 (by decide) tw_264 rfl rfl rfl rfl (Nat.le_of_ble_eq_true rfl) rfl dw_Walk_init_72 rfl ?_
  refine gi_aload_n hX 0 76 dw_Walk_init_75 rfl rfl rfl ?_
  refine gi_aload_n hX 1 77 dw_Walk_init_76 rfl rfl rfl ?_
  refine gi_putF hX 0 80 [.ref A1, .null, .ref q1, .ref q2, .ref q3, .ref q4, .int 0, .int 0, .int 1] rfl ti_4 tt_4 tk_4 tn_4 (by decide) tw_252 rfl rfl rfl rfl rfl (Nat.le_of_ble_eq_true rfl) rfl dw_Walk_init_77 rfl ?_
  refine gi_aload_n hX 0 81 dw_Walk_init_80 rfl rfl rfl ?_
  refine gi_aload_n hX 2 82 dw_Walk_init_81 rfl rfl rfl ?_
  refine gi_putF hX 1 85 [.ref A1, .ref A2, .ref q1, .ref q2, .ref q3, .ref q4, .int 0, .int 0, .int 1] rfl ti_4 tt_4 tk_4 tn_4 (by decide) tw_253 rfl rfl rfl rfl rfl (Nat.le_of_ble_eq_true rfl) rfl dw_Walk_init_82 rfl ?_
  exact gi_ret hX ⟨q1, q1_1, q2, q1_2, q3, q1_3, q4, q1_4, rfl⟩ (Nat.le_of_ble_eq_true rfl) (Nat.le_of_ble_eq_true rfl) dw_Walk_init_85
def my_Walk_init : MethodName := ⟨"TypeLoom$Walk", "<init>", "(LTypeLoom$Web;LTypeLoom$Constructors;)V"⟩
theorem hy_Walk_init : (my_Walk_init.cls ≠ "java/lang/invoke/MethodHandle" ∧ my_Walk_init.cls ≠ "java/lang/invoke/VarHandle") ∧ (parseMethodDescriptor my_Walk_init.desc).map (fun d => d.parameters.length) = some 2 := by decide +kernel
theorem ci_Walk {D : va_G} {cI cB cS cZ : ClassId} (l : Launch) (A1 : Nat) (A2 : Nat) : gi_C l (D, tq_cl, [(cI, .int), (cB, .byte), (cS, .short), (cZ, .boolean)]) my_Walk_init prog_8_method_1_code 3 2 33 8 136 4 [.null, .null, .null, .null, .null, .null, .int 0, .int 0, .int 0] [.ref A1, .ref A2] (cp_Walk cI cB cS cZ A1 A2) := gi_met (by decide) rfl rfl (fun _ => Nat.le_of_ble_eq_true rfl) (fun X h0 _ hX => cl_Walk hX A1 A2)
def cp_Shapes (cI cB cS cZ : ClassId) (A1 : Nat) (A2 : Nat) (h0 : Nat) (ws : va_W) : Prop := ∃ q1 q1_1 q2 q1_2 q3 q1_3 q4 q1_4 : Nat, ws = [(h0, .inr (5, [.ref A1, .ref A2, .ref q1, .ref q2, .ref q3, .ref q4, .int 0])), (q1, .inr (8, [.int 25600, .ref q1_1])), (q1_1, .inl (cI, 32, .inl (fun _ => 0))), (q2, .inr (8, [.int 65536, .ref q1_2])), (q1_2, .inl (cI, 32, .inl (fun _ => 0))), (q3, .inr (8, [.int 25600, .ref q1_3])), (q1_3, .inl (cI, 32, .inl (fun _ => 0))), (q4, .inr (8, [.int 25600, .ref q1_4])), (q1_4, .inl (cI, 32, .inl (fun _ => 0)))]
set_option maxRecDepth 100000 in
set_option maxHeartbeats 4000000 in
theorem cl_Shapes {D : va_G} {cI cB cS cZ : ClassId} {X : gx_X} {h0 : Nat} (hX : gi_K (D, tq_cl, [(cI, .int), (cB, .byte), (cS, .short), (cZ, .boolean)]) X prog_6_method_1_code "TypeLoom$Shapes" 3 2 33 8 136) (A1 : Nat) (A2 : Nat) : gi_G (D, tq_cl, [(cI, .int), (cB, .byte), (cS, .short), (cZ, .boolean)]) X (cp_Shapes cI cB cS cZ A1 A2 h0) 8 136 [(h0, .inr (5, [.null, .null, .null, .null, .null, .null, .int 0]))] 0 0 0 [(0, .ref h0), (1, .ref A1), (2, .ref A2)] [] := by
  refine gi_aload_n hX 0 1 dw_Shapes_init_0 rfl rfl rfl ?_
  refine gi_obj hX 4 tw_289 tw_89 tw_obj (Nat.le_of_ble_eq_true rfl) (Nat.le_of_ble_eq_true rfl) dw_Shapes_init_1 rfl ?_
  refine gi_aload_n hX 0 5 dw_Shapes_init_4 rfl rfl rfl ?_
  refine gi_new (ci := 8) hX tt_8 [.int 0, .null] 8 rfl ti_8 tk_8 tdv_8 tw_290 tw_98 tw_72 (Nat.le_of_ble_eq_true rfl) (Nat.le_of_ble_eq_true rfl) dw_Shapes_init_5 rfl (fun q1 => ?_)
  refine gi_dup hX 9 dw_Shapes_init_8 rfl rfl ?_
  refine gi_sipush hX 25600 12 dw_Shapes_init_9 (by decide) rfl ?_
  refine gi_call (st := [.ref q1, .ref h0]) hX [.int 25600] 15 (ci_Ints _ 25600) hy_Ints_init rfl tw_101 tw_291 tw_100 tw_72 ⟨(Nat.le_of_ble_eq_true rfl), (Nat.le_of_ble_eq_true rfl)⟩ (Nat.le_of_ble_eq_true rfl) (Nat.le_of_ble_eq_true rfl) (Nat.le_of_ble_eq_true rfl) dw_Shapes_init_12 rfl rfl (fun w1 hw1 => ?_)
  obtain ⟨q1_1, rfl⟩ := hw1
  refine gi_putF hX 2 18 [.null, .null, .ref q1, .null, .null, .null, .int 0] rfl ti_5 tt_5 tk_5 tn_5 (by decide) tw_295 rfl rfl rfl rfl rfl (Nat.le_of_ble_eq_true rfl) rfl dw_Shapes_init_15 rfl ?_
  refine gi_aload_n hX 0 19 dw_Shapes_init_18 rfl rfl rfl ?_
  refine gi_new (ci := 8) hX tt_8 [.int 0, .null] 22 rfl ti_8 tk_8 tdv_8 tw_290 tw_98 tw_72 (Nat.le_of_ble_eq_true rfl) (Nat.le_of_ble_eq_true rfl) dw_Shapes_init_19 rfl (fun q2 => ?_)
  refine gi_dup hX 23 dw_Shapes_init_22 rfl rfl ?_
  refine gi_ldc hX 65536 25 dw_Shapes_init_23 tw_292 rfl ?_
  refine gi_call (st := [.ref q2, .ref h0]) hX [.int 65536] 28 (ci_Ints _ 65536) hy_Ints_init rfl tw_101 tw_291 tw_100 tw_72 ⟨(Nat.le_of_ble_eq_true rfl), (Nat.le_of_ble_eq_true rfl)⟩ (Nat.le_of_ble_eq_true rfl) (Nat.le_of_ble_eq_true rfl) (Nat.le_of_ble_eq_true rfl) dw_Shapes_init_25 rfl rfl (fun w2 hw2 => ?_)
  obtain ⟨q1_2, rfl⟩ := hw2
  refine gi_putF hX 3 31 [.null, .null, .ref q1, .ref q2, .null, .null, .int 0] rfl ti_5 tt_5 tk_5 tn_5 (by decide) tw_297 rfl rfl rfl rfl rfl (Nat.le_of_ble_eq_true rfl) rfl dw_Shapes_init_28 rfl ?_
  refine gi_aload_n hX 0 32 dw_Shapes_init_31 rfl rfl rfl ?_
  refine gi_new (ci := 8) hX tt_8 [.int 0, .null] 35 rfl ti_8 tk_8 tdv_8 tw_290 tw_98 tw_72 (Nat.le_of_ble_eq_true rfl) (Nat.le_of_ble_eq_true rfl) dw_Shapes_init_32 rfl (fun q3 => ?_)
  refine gi_dup hX 36 dw_Shapes_init_35 rfl rfl ?_
  refine gi_sipush hX 25600 39 dw_Shapes_init_36 (by decide) rfl ?_
  refine gi_call (st := [.ref q3, .ref h0]) hX [.int 25600] 42 (ci_Ints _ 25600) hy_Ints_init rfl tw_101 tw_291 tw_100 tw_72 ⟨(Nat.le_of_ble_eq_true rfl), (Nat.le_of_ble_eq_true rfl)⟩ (Nat.le_of_ble_eq_true rfl) (Nat.le_of_ble_eq_true rfl) (Nat.le_of_ble_eq_true rfl) dw_Shapes_init_39 rfl rfl (fun w3 hw3 => ?_)
  obtain ⟨q1_3, rfl⟩ := hw3
  refine gi_putF hX 4 45 [.null, .null, .ref q1, .ref q2, .ref q3, .null, .int 0] rfl ti_5 tt_5 tk_5 tn_5 (by decide) tw_298 rfl rfl rfl rfl rfl (Nat.le_of_ble_eq_true rfl) rfl dw_Shapes_init_42 rfl ?_
  refine gi_aload_n hX 0 46 dw_Shapes_init_45 rfl rfl rfl ?_
  refine gi_new (ci := 8) hX tt_8 [.int 0, .null] 49 rfl ti_8 tk_8 tdv_8 tw_290 tw_98 tw_72 (Nat.le_of_ble_eq_true rfl) (Nat.le_of_ble_eq_true rfl) dw_Shapes_init_46 rfl (fun q4 => ?_)
  refine gi_dup hX 50 dw_Shapes_init_49 rfl rfl ?_
  refine gi_sipush hX 25600 53 dw_Shapes_init_50 (by decide) rfl ?_
  refine gi_call (st := [.ref q4, .ref h0]) hX [.int 25600] 56 (ci_Ints _ 25600) hy_Ints_init rfl tw_101 tw_291 tw_100 tw_72 ⟨(Nat.le_of_ble_eq_true rfl), (Nat.le_of_ble_eq_true rfl)⟩ (Nat.le_of_ble_eq_true rfl) (Nat.le_of_ble_eq_true rfl) (Nat.le_of_ble_eq_true rfl) dw_Shapes_init_53 rfl rfl (fun w4 hw4 => ?_)
  obtain ⟨q1_4, rfl⟩ := hw4
  refine gi_putF hX 5 59 [.null, .null, .ref q1, .ref q2, .ref q3, .ref q4, .int 0] rfl ti_5 tt_5 tk_5 tn_5 (by decide) tw_299 rfl rfl rfl rfl rfl (Nat.le_of_ble_eq_true rfl) rfl dw_Shapes_init_56 rfl ?_
  refine gi_aload_n hX 0 60 dw_Shapes_init_59 rfl rfl rfl ?_
  refine gi_iconst hX 0 61 dw_Shapes_init_60 (by decide) rfl ?_
  refine gi_put hX 6 64 [.null, .null, .ref q1, .ref q2, .ref q3, .ref q4, .int 0] rfl ti_5 tt_5 tk_5 tn_5 (by decide) tw_301 rfl rfl rfl rfl (Nat.le_of_ble_eq_true rfl) rfl dw_Shapes_init_61 rfl ?_
  refine gi_aload_n hX 0 65 dw_Shapes_init_64 rfl rfl rfl ?_
  refine gi_aload_n hX 1 66 dw_Shapes_init_65 rfl rfl rfl ?_
  refine gi_putF hX 0 69 [.ref A1, .null, .ref q1, .ref q2, .ref q3, .ref q4, .int 0] rfl ti_5 tt_5 tk_5 tn_5 (by decide) tw_293 rfl rfl rfl rfl rfl (Nat.le_of_ble_eq_true rfl) rfl dw_Shapes_init_66 rfl ?_
  refine gi_aload_n hX 0 70 dw_Shapes_init_69 rfl rfl rfl ?_
  refine gi_aload_n hX 2 71 dw_Shapes_init_70 rfl rfl rfl ?_
  refine gi_putF hX 1 74 [.ref A1, .ref A2, .ref q1, .ref q2, .ref q3, .ref q4, .int 0] rfl ti_5 tt_5 tk_5 tn_5 (by decide) tw_294 rfl rfl rfl rfl rfl (Nat.le_of_ble_eq_true rfl) rfl dw_Shapes_init_71 rfl ?_
  exact gi_ret hX ⟨q1, q1_1, q2, q1_2, q3, q1_3, q4, q1_4, rfl⟩ (Nat.le_of_ble_eq_true rfl) (Nat.le_of_ble_eq_true rfl) dw_Shapes_init_74
def my_Shapes_init : MethodName := ⟨"TypeLoom$Shapes", "<init>", "(LTypeLoom$Web;LTypeLoom$Walk;)V"⟩
theorem hy_Shapes_init : (my_Shapes_init.cls ≠ "java/lang/invoke/MethodHandle" ∧ my_Shapes_init.cls ≠ "java/lang/invoke/VarHandle") ∧ (parseMethodDescriptor my_Shapes_init.desc).map (fun d => d.parameters.length) = some 2 := by decide +kernel
theorem ci_Shapes {D : va_G} {cI cB cS cZ : ClassId} (l : Launch) (A1 : Nat) (A2 : Nat) : gi_C l (D, tq_cl, [(cI, .int), (cB, .byte), (cS, .short), (cZ, .boolean)]) my_Shapes_init prog_6_method_1_code 3 2 33 8 136 5 [.null, .null, .null, .null, .null, .null, .int 0] [.ref A1, .ref A2] (cp_Shapes cI cB cS cZ A1 A2) := gi_met (by decide) rfl rfl (fun _ => Nat.le_of_ble_eq_true rfl) (fun X h0 _ hX => cl_Shapes hX A1 A2)
def cp_Unifier (cI cB cS cZ : ClassId) (A1 : Nat) (A2 : Nat) (A3 : Nat) (h0 : Nat) (ws : va_W) : Prop := ∃ q1 q1_1 q2 q1_2 q3 q1_3 q4 q1_4 q5 q1_5 q6 q1_6 q7 q1_7 q8 q1_8 q9 q1_9 q10 q1_10 : Nat, ws = [(h0, .inr (6, [.ref A1, .ref A2, .ref A3, .ref q1, .ref q2, .ref q3, .int 0, .ref q4, .int 0, .ref q5, .int 0, .ref q6, .ref q7, .ref q8, .ref q9, .int 0, .ref q10, .int 0])), (q1, .inr (8, [.int 25600, .ref q1_1])), (q1_1, .inl (cI, 32, .inl (fun _ => 0))), (q2, .inr (8, [.int 25600, .ref q1_2])), (q1_2, .inl (cI, 32, .inl (fun _ => 0))), (q3, .inr (8, [.int 25600, .ref q1_3])), (q1_3, .inl (cI, 32, .inl (fun _ => 0))), (q4, .inr (8, [.int 25600, .ref q1_4])), (q1_4, .inl (cI, 32, .inl (fun _ => 0))), (q5, .inr (8, [.int 1024, .ref q1_5])), (q1_5, .inl (cI, 32, .inl (fun _ => 0))), (q6, .inr (8, [.int 25600, .ref q1_6])), (q1_6, .inl (cI, 32, .inl (fun _ => 0))), (q7, .inr (8, [.int 25600, .ref q1_7])), (q1_7, .inl (cI, 32, .inl (fun _ => 0))), (q8, .inr (8, [.int 25600, .ref q1_8])), (q1_8, .inl (cI, 32, .inl (fun _ => 0))), (q9, .inr (8, [.int 25600, .ref q1_9])), (q1_9, .inl (cI, 32, .inl (fun _ => 0))), (q10, .inr (8, [.int 25600, .ref q1_10])), (q1_10, .inl (cI, 32, .inl (fun _ => 0)))]
set_option maxRecDepth 100000 in
set_option maxHeartbeats 4000000 in
theorem cl_Unifier {D : va_G} {cI cB cS cZ : ClassId} {X : gx_X} {h0 : Nat} (hX : gi_K (D, tq_cl, [(cI, .int), (cB, .byte), (cS, .short), (cZ, .boolean)]) X prog_7_method_1_code "TypeLoom$Unifier" 4 2 33 20 340) (A1 : Nat) (A2 : Nat) (A3 : Nat) : gi_G (D, tq_cl, [(cI, .int), (cB, .byte), (cS, .short), (cZ, .boolean)]) X (cp_Unifier cI cB cS cZ A1 A2 A3 h0) 20 340 [(h0, .inr (6, [.null, .null, .null, .null, .null, .null, .int 0, .null, .int 0, .null, .int 0, .null, .null, .null, .null, .int 0, .null, .int 0]))] 0 0 0 [(0, .ref h0), (1, .ref A1), (2, .ref A2), (3, .ref A3)] [] := by
  refine gi_aload_n hX 0 1 dw_Unifier_init_0 rfl rfl rfl ?_
  refine gi_obj hX 4 tw_323 tw_89 tw_obj (Nat.le_of_ble_eq_true rfl) (Nat.le_of_ble_eq_true rfl) dw_Unifier_init_1 rfl ?_
  refine gi_aload_n hX 0 5 dw_Unifier_init_4 rfl rfl rfl ?_
  refine gi_new (ci := 8) hX tt_8 [.int 0, .null] 8 rfl ti_8 tk_8 tdv_8 tw_324 tw_98 tw_72 (Nat.le_of_ble_eq_true rfl) (Nat.le_of_ble_eq_true rfl) dw_Unifier_init_5 rfl (fun q1 => ?_)
  refine gi_dup hX 9 dw_Unifier_init_8 rfl rfl ?_
  refine gi_sipush hX 25600 12 dw_Unifier_init_9 (by decide) rfl ?_
  refine gi_call (st := [.ref q1, .ref h0]) hX [.int 25600] 15 (ci_Ints _ 25600) hy_Ints_init rfl tw_101 tw_325 tw_100 tw_72 ⟨(Nat.le_of_ble_eq_true rfl), (Nat.le_of_ble_eq_true rfl)⟩ (Nat.le_of_ble_eq_true rfl) (Nat.le_of_ble_eq_true rfl) (Nat.le_of_ble_eq_true rfl) dw_Unifier_init_12 rfl rfl (fun w1 hw1 => ?_)
  obtain ⟨q1_1, rfl⟩ := hw1
  refine gi_putF hX 3 18 [.null, .null, .null, .ref q1, .null, .null, .int 0, .null, .int 0, .null, .int 0, .null, .null, .null, .null, .int 0, .null, .int 0] rfl ti_6 tt_6 tk_6 tn_6 (by decide) tw_329 rfl rfl rfl rfl rfl (Nat.le_of_ble_eq_true rfl) rfl dw_Unifier_init_15 rfl ?_
  refine gi_aload_n hX 0 19 dw_Unifier_init_18 rfl rfl rfl ?_
  refine gi_new (ci := 8) hX tt_8 [.int 0, .null] 22 rfl ti_8 tk_8 tdv_8 tw_324 tw_98 tw_72 (Nat.le_of_ble_eq_true rfl) (Nat.le_of_ble_eq_true rfl) dw_Unifier_init_19 rfl (fun q2 => ?_)
  refine gi_dup hX 23 dw_Unifier_init_22 rfl rfl ?_
  refine gi_sipush hX 25600 26 dw_Unifier_init_23 (by decide) rfl ?_
  refine gi_call (st := [.ref q2, .ref h0]) hX [.int 25600] 29 (ci_Ints _ 25600) hy_Ints_init rfl tw_101 tw_325 tw_100 tw_72 ⟨(Nat.le_of_ble_eq_true rfl), (Nat.le_of_ble_eq_true rfl)⟩ (Nat.le_of_ble_eq_true rfl) (Nat.le_of_ble_eq_true rfl) (Nat.le_of_ble_eq_true rfl) dw_Unifier_init_26 rfl rfl (fun w2 hw2 => ?_)
  obtain ⟨q1_2, rfl⟩ := hw2
  refine gi_putF hX 4 32 [.null, .null, .null, .ref q1, .ref q2, .null, .int 0, .null, .int 0, .null, .int 0, .null, .null, .null, .null, .int 0, .null, .int 0] rfl ti_6 tt_6 tk_6 tn_6 (by decide) tw_330 rfl rfl rfl rfl rfl (Nat.le_of_ble_eq_true rfl) rfl dw_Unifier_init_29 rfl ?_
  refine gi_aload_n hX 0 33 dw_Unifier_init_32 rfl rfl rfl ?_
  refine gi_new (ci := 8) hX tt_8 [.int 0, .null] 36 rfl ti_8 tk_8 tdv_8 tw_324 tw_98 tw_72 (Nat.le_of_ble_eq_true rfl) (Nat.le_of_ble_eq_true rfl) dw_Unifier_init_33 rfl (fun q3 => ?_)
  refine gi_dup hX 37 dw_Unifier_init_36 rfl rfl ?_
  refine gi_sipush hX 25600 40 dw_Unifier_init_37 (by decide) rfl ?_
  refine gi_call (st := [.ref q3, .ref h0]) hX [.int 25600] 43 (ci_Ints _ 25600) hy_Ints_init rfl tw_101 tw_325 tw_100 tw_72 ⟨(Nat.le_of_ble_eq_true rfl), (Nat.le_of_ble_eq_true rfl)⟩ (Nat.le_of_ble_eq_true rfl) (Nat.le_of_ble_eq_true rfl) (Nat.le_of_ble_eq_true rfl) dw_Unifier_init_40 rfl rfl (fun w3 hw3 => ?_)
  obtain ⟨q1_3, rfl⟩ := hw3
  refine gi_putF hX 5 46 [.null, .null, .null, .ref q1, .ref q2, .ref q3, .int 0, .null, .int 0, .null, .int 0, .null, .null, .null, .null, .int 0, .null, .int 0] rfl ti_6 tt_6 tk_6 tn_6 (by decide) tw_331 rfl rfl rfl rfl rfl (Nat.le_of_ble_eq_true rfl) rfl dw_Unifier_init_43 rfl ?_
  refine gi_aload_n hX 0 47 dw_Unifier_init_46 rfl rfl rfl ?_
  refine gi_iconst hX 0 48 dw_Unifier_init_47 (by decide) rfl ?_
  refine gi_put hX 6 51 [.null, .null, .null, .ref q1, .ref q2, .ref q3, .int 0, .null, .int 0, .null, .int 0, .null, .null, .null, .null, .int 0, .null, .int 0] rfl ti_6 tt_6 tk_6 tn_6 (by decide) tw_332 rfl rfl rfl rfl (Nat.le_of_ble_eq_true rfl) rfl dw_Unifier_init_48 rfl ?_
  refine gi_aload_n hX 0 52 dw_Unifier_init_51 rfl rfl rfl ?_
  refine gi_new (ci := 8) hX tt_8 [.int 0, .null] 55 rfl ti_8 tk_8 tdv_8 tw_324 tw_98 tw_72 (Nat.le_of_ble_eq_true rfl) (Nat.le_of_ble_eq_true rfl) dw_Unifier_init_52 rfl (fun q4 => ?_)
  refine gi_dup hX 56 dw_Unifier_init_55 rfl rfl ?_
  refine gi_sipush hX 25600 59 dw_Unifier_init_56 (by decide) rfl ?_
  refine gi_call (st := [.ref q4, .ref h0]) hX [.int 25600] 62 (ci_Ints _ 25600) hy_Ints_init rfl tw_101 tw_325 tw_100 tw_72 ⟨(Nat.le_of_ble_eq_true rfl), (Nat.le_of_ble_eq_true rfl)⟩ (Nat.le_of_ble_eq_true rfl) (Nat.le_of_ble_eq_true rfl) (Nat.le_of_ble_eq_true rfl) dw_Unifier_init_59 rfl rfl (fun w4 hw4 => ?_)
  obtain ⟨q1_4, rfl⟩ := hw4
  refine gi_putF hX 7 65 [.null, .null, .null, .ref q1, .ref q2, .ref q3, .int 0, .ref q4, .int 0, .null, .int 0, .null, .null, .null, .null, .int 0, .null, .int 0] rfl ti_6 tt_6 tk_6 tn_6 (by decide) tw_333 rfl rfl rfl rfl rfl (Nat.le_of_ble_eq_true rfl) rfl dw_Unifier_init_62 rfl ?_
  refine gi_aload_n hX 0 66 dw_Unifier_init_65 rfl rfl rfl ?_
  refine gi_iconst hX 0 67 dw_Unifier_init_66 (by decide) rfl ?_
  refine gi_put hX 8 70 [.null, .null, .null, .ref q1, .ref q2, .ref q3, .int 0, .ref q4, .int 0, .null, .int 0, .null, .null, .null, .null, .int 0, .null, .int 0] rfl ti_6 tt_6 tk_6 tn_6 (by decide) tw_334 rfl rfl rfl rfl (Nat.le_of_ble_eq_true rfl) rfl dw_Unifier_init_67 rfl ?_
  refine gi_aload_n hX 0 71 dw_Unifier_init_70 rfl rfl rfl ?_
  refine gi_new (ci := 8) hX tt_8 [.int 0, .null] 74 rfl ti_8 tk_8 tdv_8 tw_324 tw_98 tw_72 (Nat.le_of_ble_eq_true rfl) (Nat.le_of_ble_eq_true rfl) dw_Unifier_init_71 rfl (fun q5 => ?_)
  refine gi_dup hX 75 dw_Unifier_init_74 rfl rfl ?_
  refine gi_sipush hX 1024 78 dw_Unifier_init_75 (by decide) rfl ?_
  refine gi_call (st := [.ref q5, .ref h0]) hX [.int 1024] 81 (ci_Ints _ 1024) hy_Ints_init rfl tw_101 tw_325 tw_100 tw_72 ⟨(Nat.le_of_ble_eq_true rfl), (Nat.le_of_ble_eq_true rfl)⟩ (Nat.le_of_ble_eq_true rfl) (Nat.le_of_ble_eq_true rfl) (Nat.le_of_ble_eq_true rfl) dw_Unifier_init_78 rfl rfl (fun w5 hw5 => ?_)
  obtain ⟨q1_5, rfl⟩ := hw5
  refine gi_putF hX 9 84 [.null, .null, .null, .ref q1, .ref q2, .ref q3, .int 0, .ref q4, .int 0, .ref q5, .int 0, .null, .null, .null, .null, .int 0, .null, .int 0] rfl ti_6 tt_6 tk_6 tn_6 (by decide) tw_335 rfl rfl rfl rfl rfl (Nat.le_of_ble_eq_true rfl) rfl dw_Unifier_init_81 rfl ?_
  refine gi_aload_n hX 0 85 dw_Unifier_init_84 rfl rfl rfl ?_
  refine gi_iconst hX 0 86 dw_Unifier_init_85 (by decide) rfl ?_
  refine gi_put hX 10 89 [.null, .null, .null, .ref q1, .ref q2, .ref q3, .int 0, .ref q4, .int 0, .ref q5, .int 0, .null, .null, .null, .null, .int 0, .null, .int 0] rfl ti_6 tt_6 tk_6 tn_6 (by decide) tw_336 rfl rfl rfl rfl (Nat.le_of_ble_eq_true rfl) rfl dw_Unifier_init_86 rfl ?_
  refine gi_aload_n hX 0 90 dw_Unifier_init_89 rfl rfl rfl ?_
  refine gi_new (ci := 8) hX tt_8 [.int 0, .null] 93 rfl ti_8 tk_8 tdv_8 tw_324 tw_98 tw_72 (Nat.le_of_ble_eq_true rfl) (Nat.le_of_ble_eq_true rfl) dw_Unifier_init_90 rfl (fun q6 => ?_)
  refine gi_dup hX 94 dw_Unifier_init_93 rfl rfl ?_
  refine gi_sipush hX 25600 97 dw_Unifier_init_94 (by decide) rfl ?_
  refine gi_call (st := [.ref q6, .ref h0]) hX [.int 25600] 100 (ci_Ints _ 25600) hy_Ints_init rfl tw_101 tw_325 tw_100 tw_72 ⟨(Nat.le_of_ble_eq_true rfl), (Nat.le_of_ble_eq_true rfl)⟩ (Nat.le_of_ble_eq_true rfl) (Nat.le_of_ble_eq_true rfl) (Nat.le_of_ble_eq_true rfl) dw_Unifier_init_97 rfl rfl (fun w6 hw6 => ?_)
  obtain ⟨q1_6, rfl⟩ := hw6
  refine gi_putF hX 11 103 [.null, .null, .null, .ref q1, .ref q2, .ref q3, .int 0, .ref q4, .int 0, .ref q5, .int 0, .ref q6, .null, .null, .null, .int 0, .null, .int 0] rfl ti_6 tt_6 tk_6 tn_6 (by decide) tw_337 rfl rfl rfl rfl rfl (Nat.le_of_ble_eq_true rfl) rfl dw_Unifier_init_100 rfl ?_
  refine gi_aload_n hX 0 104 dw_Unifier_init_103 rfl rfl rfl ?_
  refine gi_new (ci := 8) hX tt_8 [.int 0, .null] 107 rfl ti_8 tk_8 tdv_8 tw_324 tw_98 tw_72 (Nat.le_of_ble_eq_true rfl) (Nat.le_of_ble_eq_true rfl) dw_Unifier_init_104 rfl (fun q7 => ?_)
  refine gi_dup hX 108 dw_Unifier_init_107 rfl rfl ?_
  refine gi_sipush hX 25600 111 dw_Unifier_init_108 (by decide) rfl ?_
  refine gi_call (st := [.ref q7, .ref h0]) hX [.int 25600] 114 (ci_Ints _ 25600) hy_Ints_init rfl tw_101 tw_325 tw_100 tw_72 ⟨(Nat.le_of_ble_eq_true rfl), (Nat.le_of_ble_eq_true rfl)⟩ (Nat.le_of_ble_eq_true rfl) (Nat.le_of_ble_eq_true rfl) (Nat.le_of_ble_eq_true rfl) dw_Unifier_init_111 rfl rfl (fun w7 hw7 => ?_)
  obtain ⟨q1_7, rfl⟩ := hw7
  refine gi_putF hX 12 117 [.null, .null, .null, .ref q1, .ref q2, .ref q3, .int 0, .ref q4, .int 0, .ref q5, .int 0, .ref q6, .ref q7, .null, .null, .int 0, .null, .int 0] rfl ti_6 tt_6 tk_6 tn_6 (by decide) tw_338 rfl rfl rfl rfl rfl (Nat.le_of_ble_eq_true rfl) rfl dw_Unifier_init_114 rfl ?_
  refine gi_aload_n hX 0 118 dw_Unifier_init_117 rfl rfl rfl ?_
  refine gi_new (ci := 8) hX tt_8 [.int 0, .null] 121 rfl ti_8 tk_8 tdv_8 tw_324 tw_98 tw_72 (Nat.le_of_ble_eq_true rfl) (Nat.le_of_ble_eq_true rfl) dw_Unifier_init_118 rfl (fun q8 => ?_)
  refine gi_dup hX 122 dw_Unifier_init_121 rfl rfl ?_
  refine gi_sipush hX 25600 125 dw_Unifier_init_122 (by decide) rfl ?_
  refine gi_call (st := [.ref q8, .ref h0]) hX [.int 25600] 128 (ci_Ints _ 25600) hy_Ints_init rfl tw_101 tw_325 tw_100 tw_72 ⟨(Nat.le_of_ble_eq_true rfl), (Nat.le_of_ble_eq_true rfl)⟩ (Nat.le_of_ble_eq_true rfl) (Nat.le_of_ble_eq_true rfl) (Nat.le_of_ble_eq_true rfl) dw_Unifier_init_125 rfl rfl (fun w8 hw8 => ?_)
  obtain ⟨q1_8, rfl⟩ := hw8
  refine gi_putF hX 13 131 [.null, .null, .null, .ref q1, .ref q2, .ref q3, .int 0, .ref q4, .int 0, .ref q5, .int 0, .ref q6, .ref q7, .ref q8, .null, .int 0, .null, .int 0] rfl ti_6 tt_6 tk_6 tn_6 (by decide) tw_339 rfl rfl rfl rfl rfl (Nat.le_of_ble_eq_true rfl) rfl dw_Unifier_init_128 rfl ?_
  refine gi_aload_n hX 0 132 dw_Unifier_init_131 rfl rfl rfl ?_
  refine gi_new (ci := 8) hX tt_8 [.int 0, .null] 135 rfl ti_8 tk_8 tdv_8 tw_324 tw_98 tw_72 (Nat.le_of_ble_eq_true rfl) (Nat.le_of_ble_eq_true rfl) dw_Unifier_init_132 rfl (fun q9 => ?_)
  refine gi_dup hX 136 dw_Unifier_init_135 rfl rfl ?_
  refine gi_sipush hX 25600 139 dw_Unifier_init_136 (by decide) rfl ?_
  refine gi_call (st := [.ref q9, .ref h0]) hX [.int 25600] 142 (ci_Ints _ 25600) hy_Ints_init rfl tw_101 tw_325 tw_100 tw_72 ⟨(Nat.le_of_ble_eq_true rfl), (Nat.le_of_ble_eq_true rfl)⟩ (Nat.le_of_ble_eq_true rfl) (Nat.le_of_ble_eq_true rfl) (Nat.le_of_ble_eq_true rfl) dw_Unifier_init_139 rfl rfl (fun w9 hw9 => ?_)
  obtain ⟨q1_9, rfl⟩ := hw9
  refine gi_putF hX 14 145 [.null, .null, .null, .ref q1, .ref q2, .ref q3, .int 0, .ref q4, .int 0, .ref q5, .int 0, .ref q6, .ref q7, .ref q8, .ref q9, .int 0, .null, .int 0] rfl ti_6 tt_6 tk_6 tn_6 (by decide) tw_340 rfl rfl rfl rfl rfl (Nat.le_of_ble_eq_true rfl) rfl dw_Unifier_init_142 rfl ?_
  refine gi_aload_n hX 0 146 dw_Unifier_init_145 rfl rfl rfl ?_
  refine gi_iconst hX 0 147 dw_Unifier_init_146 (by decide) rfl ?_
  refine gi_put hX 15 150 [.null, .null, .null, .ref q1, .ref q2, .ref q3, .int 0, .ref q4, .int 0, .ref q5, .int 0, .ref q6, .ref q7, .ref q8, .ref q9, .int 0, .null, .int 0] rfl ti_6 tt_6 tk_6 tn_6 (by decide) tw_341 rfl rfl rfl rfl (Nat.le_of_ble_eq_true rfl) rfl dw_Unifier_init_147 rfl ?_
  refine gi_aload_n hX 0 151 dw_Unifier_init_150 rfl rfl rfl ?_
  refine gi_new (ci := 8) hX tt_8 [.int 0, .null] 154 rfl ti_8 tk_8 tdv_8 tw_324 tw_98 tw_72 (Nat.le_of_ble_eq_true rfl) (Nat.le_of_ble_eq_true rfl) dw_Unifier_init_151 rfl (fun q10 => ?_)
  refine gi_dup hX 155 dw_Unifier_init_154 rfl rfl ?_
  refine gi_sipush hX 25600 158 dw_Unifier_init_155 (by decide) rfl ?_
  refine gi_call (st := [.ref q10, .ref h0]) hX [.int 25600] 161 (ci_Ints _ 25600) hy_Ints_init rfl tw_101 tw_325 tw_100 tw_72 ⟨(Nat.le_of_ble_eq_true rfl), (Nat.le_of_ble_eq_true rfl)⟩ (Nat.le_of_ble_eq_true rfl) (Nat.le_of_ble_eq_true rfl) (Nat.le_of_ble_eq_true rfl) dw_Unifier_init_158 rfl rfl (fun w10 hw10 => ?_)
  obtain ⟨q1_10, rfl⟩ := hw10
  refine gi_putF hX 16 164 [.null, .null, .null, .ref q1, .ref q2, .ref q3, .int 0, .ref q4, .int 0, .ref q5, .int 0, .ref q6, .ref q7, .ref q8, .ref q9, .int 0, .ref q10, .int 0] rfl ti_6 tt_6 tk_6 tn_6 (by decide) tw_342 rfl rfl rfl rfl rfl (Nat.le_of_ble_eq_true rfl) rfl dw_Unifier_init_161 rfl ?_
  refine gi_aload_n hX 0 165 dw_Unifier_init_164 rfl rfl rfl ?_
  refine gi_iconst hX 0 166 dw_Unifier_init_165 (by decide) rfl ?_
  refine gi_put hX 17 169 [.null, .null, .null, .ref q1, .ref q2, .ref q3, .int 0, .ref q4, .int 0, .ref q5, .int 0, .ref q6, .ref q7, .ref q8, .ref q9, .int 0, .ref q10, .int 0] rfl ti_6 tt_6 tk_6 tn_6 (by decide) tw_343 rfl rfl rfl rfl (Nat.le_of_ble_eq_true rfl) rfl dw_Unifier_init_166 rfl ?_
  refine gi_aload_n hX 0 170 dw_Unifier_init_169 rfl rfl rfl ?_
  refine gi_aload_n hX 1 171 dw_Unifier_init_170 rfl rfl rfl ?_
  refine gi_putF hX 0 174 [.ref A1, .null, .null, .ref q1, .ref q2, .ref q3, .int 0, .ref q4, .int 0, .ref q5, .int 0, .ref q6, .ref q7, .ref q8, .ref q9, .int 0, .ref q10, .int 0] rfl ti_6 tt_6 tk_6 tn_6 (by decide) tw_326 rfl rfl rfl rfl rfl (Nat.le_of_ble_eq_true rfl) rfl dw_Unifier_init_171 rfl ?_
  refine gi_aload_n hX 0 175 dw_Unifier_init_174 rfl rfl rfl ?_
  refine gi_aload_n hX 2 176 dw_Unifier_init_175 rfl rfl rfl ?_
  refine gi_putF hX 1 179 [.ref A1, .ref A2, .null, .ref q1, .ref q2, .ref q3, .int 0, .ref q4, .int 0, .ref q5, .int 0, .ref q6, .ref q7, .ref q8, .ref q9, .int 0, .ref q10, .int 0] rfl ti_6 tt_6 tk_6 tn_6 (by decide) tw_327 rfl rfl rfl rfl rfl (Nat.le_of_ble_eq_true rfl) rfl dw_Unifier_init_176 rfl ?_
  refine gi_aload_n hX 0 180 dw_Unifier_init_179 rfl rfl rfl ?_
  refine gi_aload_n hX 3 181 dw_Unifier_init_180 rfl rfl rfl ?_
  refine gi_putF hX 2 184 [.ref A1, .ref A2, .ref A3, .ref q1, .ref q2, .ref q3, .int 0, .ref q4, .int 0, .ref q5, .int 0, .ref q6, .ref q7, .ref q8, .ref q9, .int 0, .ref q10, .int 0] rfl ti_6 tt_6 tk_6 tn_6 (by decide) tw_328 rfl rfl rfl rfl rfl (Nat.le_of_ble_eq_true rfl) rfl dw_Unifier_init_181 rfl ?_
  exact gi_ret hX ⟨q1, q1_1, q2, q1_2, q3, q1_3, q4, q1_4, q5, q1_5, q6, q1_6, q7, q1_7, q8, q1_8, q9, q1_9, q10, q1_10, rfl⟩ (Nat.le_of_ble_eq_true rfl) (Nat.le_of_ble_eq_true rfl) dw_Unifier_init_184
def my_Unifier_init : MethodName := ⟨"TypeLoom$Unifier", "<init>", "(LTypeLoom$Web;LTypeLoom$Walk;LTypeLoom$Constructors;)V"⟩
theorem hy_Unifier_init : (my_Unifier_init.cls ≠ "java/lang/invoke/MethodHandle" ∧ my_Unifier_init.cls ≠ "java/lang/invoke/VarHandle") ∧ (parseMethodDescriptor my_Unifier_init.desc).map (fun d => d.parameters.length) = some 3 := by decide +kernel
theorem ci_Unifier {D : va_G} {cI cB cS cZ : ClassId} (l : Launch) (A1 : Nat) (A2 : Nat) (A3 : Nat) : gi_C l (D, tq_cl, [(cI, .int), (cB, .byte), (cS, .short), (cZ, .boolean)]) my_Unifier_init prog_7_method_1_code 4 2 33 20 340 6 [.null, .null, .null, .null, .null, .null, .int 0, .null, .int 0, .null, .int 0, .null, .null, .null, .null, .int 0, .null, .int 0] [.ref A1, .ref A2, .ref A3] (cp_Unifier cI cB cS cZ A1 A2 A3) := gi_met (by decide) rfl rfl (fun _ => Nat.le_of_ble_eq_true rfl) (fun X h0 _ hX => cl_Unifier hX A1 A2 A3)
def cp_Schemes (cI cB cS cZ : ClassId) (A1 : Nat) (A2 : Nat) (h0 : Nat) (ws : va_W) : Prop := ∃ q1 q1_1 q2 q1_2 q3 q1_3 q4 q1_4 q5 q1_5 q6 q1_6 q7 q1_7 q8 q1_8 q9 q1_9 q10 q1_10 q11 q1_11 q12 q1_12 q13 q1_13 : Nat, ws = [(h0, .inr (7, [.ref A1, .ref A2, .ref q1, .ref q2, .ref q3, .ref q4, .ref q5, .ref q6, .ref q7, .ref q8, .ref q9, .ref q10, .ref q11, .ref q12, .ref q13, .int 0, .int 0, .int 0])), (q1, .inr (8, [.int 16384, .ref q1_1])), (q1_1, .inl (cI, 32, .inl (fun _ => 0))), (q2, .inr (8, [.int 16384, .ref q1_2])), (q1_2, .inl (cI, 32, .inl (fun _ => 0))), (q3, .inr (8, [.int 16384, .ref q1_3])), (q1_3, .inl (cI, 32, .inl (fun _ => 0))), (q4, .inr (8, [.int 16385, .ref q1_4])), (q1_4, .inl (cI, 32, .inl (fun _ => 0))), (q5, .inr (8, [.int 32768, .ref q1_5])), (q1_5, .inl (cI, 32, .inl (fun _ => 0))), (q6, .inr (8, [.int 32768, .ref q1_6])), (q1_6, .inl (cI, 32, .inl (fun _ => 0))), (q7, .inr (8, [.int 2049, .ref q1_7])), (q1_7, .inl (cI, 32, .inl (fun _ => 0))), (q8, .inr (8, [.int 2048, .ref q1_8])), (q1_8, .inl (cI, 32, .inl (fun _ => 0))), (q9, .inr (8, [.int 2048, .ref q1_9])), (q1_9, .inl (cI, 32, .inl (fun _ => 0))), (q10, .inr (8, [.int 2048, .ref q1_10])), (q1_10, .inl (cI, 32, .inl (fun _ => 0))), (q11, .inr (8, [.int 2048, .ref q1_11])), (q1_11, .inl (cI, 32, .inl (fun _ => 0))), (q12, .inr (8, [.int 2048, .ref q1_12])), (q1_12, .inl (cI, 32, .inl (fun _ => 0))), (q13, .inr (8, [.int 16384, .ref q1_13])), (q1_13, .inl (cI, 32, .inl (fun _ => 0)))]
set_option maxRecDepth 100000 in
set_option maxHeartbeats 4000000 in
theorem cl_Schemes {D : va_G} {cI cB cS cZ : ClassId} {X : gx_X} {h0 : Nat} (hX : gi_K (D, tq_cl, [(cI, .int), (cB, .byte), (cS, .short), (cZ, .boolean)]) X prog_5_method_1_code "TypeLoom$Schemes" 3 2 33 26 442) (A1 : Nat) (A2 : Nat) : gi_G (D, tq_cl, [(cI, .int), (cB, .byte), (cS, .short), (cZ, .boolean)]) X (cp_Schemes cI cB cS cZ A1 A2 h0) 26 442 [(h0, .inr (7, [.null, .null, .null, .null, .null, .null, .null, .null, .null, .null, .null, .null, .null, .null, .null, .int 0, .int 0, .int 0]))] 0 0 0 [(0, .ref h0), (1, .ref A1), (2, .ref A2)] [] := by
  refine gi_aload_n hX 0 1 dw_Schemes_init_0 rfl rfl rfl ?_
  refine gi_obj hX 4 tw_386 tw_89 tw_obj (Nat.le_of_ble_eq_true rfl) (Nat.le_of_ble_eq_true rfl) dw_Schemes_init_1 rfl ?_
  refine gi_aload_n hX 0 5 dw_Schemes_init_4 rfl rfl rfl ?_
  refine gi_new (ci := 8) hX tt_8 [.int 0, .null] 8 rfl ti_8 tk_8 tdv_8 tw_387 tw_98 tw_72 (Nat.le_of_ble_eq_true rfl) (Nat.le_of_ble_eq_true rfl) dw_Schemes_init_5 rfl (fun q1 => ?_)
  refine gi_dup hX 9 dw_Schemes_init_8 rfl rfl ?_
  refine gi_sipush hX 16384 12 dw_Schemes_init_9 (by decide) rfl ?_
  refine gi_call (st := [.ref q1, .ref h0]) hX [.int 16384] 15 (ci_Ints _ 16384) hy_Ints_init rfl tw_101 tw_388 tw_100 tw_72 ⟨(Nat.le_of_ble_eq_true rfl), (Nat.le_of_ble_eq_true rfl)⟩ (Nat.le_of_ble_eq_true rfl) (Nat.le_of_ble_eq_true rfl) (Nat.le_of_ble_eq_true rfl) dw_Schemes_init_12 rfl rfl (fun w1 hw1 => ?_)
  obtain ⟨q1_1, rfl⟩ := hw1
  refine gi_putF hX 2 18 [.null, .null, .ref q1, .null, .null, .null, .null, .null, .null, .null, .null, .null, .null, .null, .null, .int 0, .int 0, .int 0] rfl ti_7 tt_7 tk_7 tn_7 (by decide) tw_392 rfl rfl rfl rfl rfl (Nat.le_of_ble_eq_true rfl) rfl dw_Schemes_init_15 rfl ?_
  refine gi_aload_n hX 0 19 dw_Schemes_init_18 rfl rfl rfl ?_
  refine gi_new (ci := 8) hX tt_8 [.int 0, .null] 22 rfl ti_8 tk_8 tdv_8 tw_387 tw_98 tw_72 (Nat.le_of_ble_eq_true rfl) (Nat.le_of_ble_eq_true rfl) dw_Schemes_init_19 rfl (fun q2 => ?_)
  refine gi_dup hX 23 dw_Schemes_init_22 rfl rfl ?_
  refine gi_sipush hX 16384 26 dw_Schemes_init_23 (by decide) rfl ?_
  refine gi_call (st := [.ref q2, .ref h0]) hX [.int 16384] 29 (ci_Ints _ 16384) hy_Ints_init rfl tw_101 tw_388 tw_100 tw_72 ⟨(Nat.le_of_ble_eq_true rfl), (Nat.le_of_ble_eq_true rfl)⟩ (Nat.le_of_ble_eq_true rfl) (Nat.le_of_ble_eq_true rfl) (Nat.le_of_ble_eq_true rfl) dw_Schemes_init_26 rfl rfl (fun w2 hw2 => ?_)
  obtain ⟨q1_2, rfl⟩ := hw2
  refine gi_putF hX 3 32 [.null, .null, .ref q1, .ref q2, .null, .null, .null, .null, .null, .null, .null, .null, .null, .null, .null, .int 0, .int 0, .int 0] rfl ti_7 tt_7 tk_7 tn_7 (by decide) tw_393 rfl rfl rfl rfl rfl (Nat.le_of_ble_eq_true rfl) rfl dw_Schemes_init_29 rfl ?_
  refine gi_aload_n hX 0 33 dw_Schemes_init_32 rfl rfl rfl ?_
  refine gi_new (ci := 8) hX tt_8 [.int 0, .null] 36 rfl ti_8 tk_8 tdv_8 tw_387 tw_98 tw_72 (Nat.le_of_ble_eq_true rfl) (Nat.le_of_ble_eq_true rfl) dw_Schemes_init_33 rfl (fun q3 => ?_)
  refine gi_dup hX 37 dw_Schemes_init_36 rfl rfl ?_
  refine gi_sipush hX 16384 40 dw_Schemes_init_37 (by decide) rfl ?_
  refine gi_call (st := [.ref q3, .ref h0]) hX [.int 16384] 43 (ci_Ints _ 16384) hy_Ints_init rfl tw_101 tw_388 tw_100 tw_72 ⟨(Nat.le_of_ble_eq_true rfl), (Nat.le_of_ble_eq_true rfl)⟩ (Nat.le_of_ble_eq_true rfl) (Nat.le_of_ble_eq_true rfl) (Nat.le_of_ble_eq_true rfl) dw_Schemes_init_40 rfl rfl (fun w3 hw3 => ?_)
  obtain ⟨q1_3, rfl⟩ := hw3
  refine gi_putF hX 4 46 [.null, .null, .ref q1, .ref q2, .ref q3, .null, .null, .null, .null, .null, .null, .null, .null, .null, .null, .int 0, .int 0, .int 0] rfl ti_7 tt_7 tk_7 tn_7 (by decide) tw_394 rfl rfl rfl rfl rfl (Nat.le_of_ble_eq_true rfl) rfl dw_Schemes_init_43 rfl ?_
  refine gi_aload_n hX 0 47 dw_Schemes_init_46 rfl rfl rfl ?_
  refine gi_new (ci := 8) hX tt_8 [.int 0, .null] 50 rfl ti_8 tk_8 tdv_8 tw_387 tw_98 tw_72 (Nat.le_of_ble_eq_true rfl) (Nat.le_of_ble_eq_true rfl) dw_Schemes_init_47 rfl (fun q4 => ?_)
  refine gi_dup hX 51 dw_Schemes_init_50 rfl rfl ?_
  refine gi_sipush hX 16385 54 dw_Schemes_init_51 (by decide) rfl ?_
  refine gi_call (st := [.ref q4, .ref h0]) hX [.int 16385] 57 (ci_Ints _ 16385) hy_Ints_init rfl tw_101 tw_388 tw_100 tw_72 ⟨(Nat.le_of_ble_eq_true rfl), (Nat.le_of_ble_eq_true rfl)⟩ (Nat.le_of_ble_eq_true rfl) (Nat.le_of_ble_eq_true rfl) (Nat.le_of_ble_eq_true rfl) dw_Schemes_init_54 rfl rfl (fun w4 hw4 => ?_)
  obtain ⟨q1_4, rfl⟩ := hw4
  refine gi_putF hX 5 60 [.null, .null, .ref q1, .ref q2, .ref q3, .ref q4, .null, .null, .null, .null, .null, .null, .null, .null, .null, .int 0, .int 0, .int 0] rfl ti_7 tt_7 tk_7 tn_7 (by decide) tw_395 rfl rfl rfl rfl rfl (Nat.le_of_ble_eq_true rfl) rfl dw_Schemes_init_57 rfl ?_
  refine gi_aload_n hX 0 61 dw_Schemes_init_60 rfl rfl rfl ?_
  refine gi_new (ci := 8) hX tt_8 [.int 0, .null] 64 rfl ti_8 tk_8 tdv_8 tw_387 tw_98 tw_72 (Nat.le_of_ble_eq_true rfl) (Nat.le_of_ble_eq_true rfl) dw_Schemes_init_61 rfl (fun q5 => ?_)
  refine gi_dup hX 65 dw_Schemes_init_64 rfl rfl ?_
  refine gi_ldc hX 32768 67 dw_Schemes_init_65 tw_389 rfl ?_
  refine gi_call (st := [.ref q5, .ref h0]) hX [.int 32768] 70 (ci_Ints _ 32768) hy_Ints_init rfl tw_101 tw_388 tw_100 tw_72 ⟨(Nat.le_of_ble_eq_true rfl), (Nat.le_of_ble_eq_true rfl)⟩ (Nat.le_of_ble_eq_true rfl) (Nat.le_of_ble_eq_true rfl) (Nat.le_of_ble_eq_true rfl) dw_Schemes_init_67 rfl rfl (fun w5 hw5 => ?_)
  obtain ⟨q1_5, rfl⟩ := hw5
  refine gi_putF hX 6 73 [.null, .null, .ref q1, .ref q2, .ref q3, .ref q4, .ref q5, .null, .null, .null, .null, .null, .null, .null, .null, .int 0, .int 0, .int 0] rfl ti_7 tt_7 tk_7 tn_7 (by decide) tw_396 rfl rfl rfl rfl rfl (Nat.le_of_ble_eq_true rfl) rfl dw_Schemes_init_70 rfl ?_
  refine gi_aload_n hX 0 74 dw_Schemes_init_73 rfl rfl rfl ?_
  refine gi_new (ci := 8) hX tt_8 [.int 0, .null] 77 rfl ti_8 tk_8 tdv_8 tw_387 tw_98 tw_72 (Nat.le_of_ble_eq_true rfl) (Nat.le_of_ble_eq_true rfl) dw_Schemes_init_74 rfl (fun q6 => ?_)
  refine gi_dup hX 78 dw_Schemes_init_77 rfl rfl ?_
  refine gi_ldc hX 32768 80 dw_Schemes_init_78 tw_389 rfl ?_
  refine gi_call (st := [.ref q6, .ref h0]) hX [.int 32768] 83 (ci_Ints _ 32768) hy_Ints_init rfl tw_101 tw_388 tw_100 tw_72 ⟨(Nat.le_of_ble_eq_true rfl), (Nat.le_of_ble_eq_true rfl)⟩ (Nat.le_of_ble_eq_true rfl) (Nat.le_of_ble_eq_true rfl) (Nat.le_of_ble_eq_true rfl) dw_Schemes_init_80 rfl rfl (fun w6 hw6 => ?_)
  obtain ⟨q1_6, rfl⟩ := hw6
  refine gi_putF hX 7 86 [.null, .null, .ref q1, .ref q2, .ref q3, .ref q4, .ref q5, .ref q6, .null, .null, .null, .null, .null, .null, .null, .int 0, .int 0, .int 0] rfl ti_7 tt_7 tk_7 tn_7 (by decide) tw_397 rfl rfl rfl rfl rfl (Nat.le_of_ble_eq_true rfl) rfl dw_Schemes_init_83 rfl ?_
  refine gi_aload_n hX 0 87 dw_Schemes_init_86 rfl rfl rfl ?_
  refine gi_new (ci := 8) hX tt_8 [.int 0, .null] 90 rfl ti_8 tk_8 tdv_8 tw_387 tw_98 tw_72 (Nat.le_of_ble_eq_true rfl) (Nat.le_of_ble_eq_true rfl) dw_Schemes_init_87 rfl (fun q7 => ?_)
  refine gi_dup hX 91 dw_Schemes_init_90 rfl rfl ?_
  refine gi_sipush hX 2049 94 dw_Schemes_init_91 (by decide) rfl ?_
  refine gi_call (st := [.ref q7, .ref h0]) hX [.int 2049] 97 (ci_Ints _ 2049) hy_Ints_init rfl tw_101 tw_388 tw_100 tw_72 ⟨(Nat.le_of_ble_eq_true rfl), (Nat.le_of_ble_eq_true rfl)⟩ (Nat.le_of_ble_eq_true rfl) (Nat.le_of_ble_eq_true rfl) (Nat.le_of_ble_eq_true rfl) dw_Schemes_init_94 rfl rfl (fun w7 hw7 => ?_)
  obtain ⟨q1_7, rfl⟩ := hw7
  refine gi_putF hX 8 100 [.null, .null, .ref q1, .ref q2, .ref q3, .ref q4, .ref q5, .ref q6, .ref q7, .null, .null, .null, .null, .null, .null, .int 0, .int 0, .int 0] rfl ti_7 tt_7 tk_7 tn_7 (by decide) tw_398 rfl rfl rfl rfl rfl (Nat.le_of_ble_eq_true rfl) rfl dw_Schemes_init_97 rfl ?_
  refine gi_aload_n hX 0 101 dw_Schemes_init_100 rfl rfl rfl ?_
  refine gi_new (ci := 8) hX tt_8 [.int 0, .null] 104 rfl ti_8 tk_8 tdv_8 tw_387 tw_98 tw_72 (Nat.le_of_ble_eq_true rfl) (Nat.le_of_ble_eq_true rfl) dw_Schemes_init_101 rfl (fun q8 => ?_)
  refine gi_dup hX 105 dw_Schemes_init_104 rfl rfl ?_
  refine gi_sipush hX 2048 108 dw_Schemes_init_105 (by decide) rfl ?_
  refine gi_call (st := [.ref q8, .ref h0]) hX [.int 2048] 111 (ci_Ints _ 2048) hy_Ints_init rfl tw_101 tw_388 tw_100 tw_72 ⟨(Nat.le_of_ble_eq_true rfl), (Nat.le_of_ble_eq_true rfl)⟩ (Nat.le_of_ble_eq_true rfl) (Nat.le_of_ble_eq_true rfl) (Nat.le_of_ble_eq_true rfl) dw_Schemes_init_108 rfl rfl (fun w8 hw8 => ?_)
  obtain ⟨q1_8, rfl⟩ := hw8
  refine gi_putF hX 9 114 [.null, .null, .ref q1, .ref q2, .ref q3, .ref q4, .ref q5, .ref q6, .ref q7, .ref q8, .null, .null, .null, .null, .null, .int 0, .int 0, .int 0] rfl ti_7 tt_7 tk_7 tn_7 (by decide) tw_399 rfl rfl rfl rfl rfl (Nat.le_of_ble_eq_true rfl) rfl dw_Schemes_init_111 rfl ?_
  refine gi_aload_n hX 0 115 dw_Schemes_init_114 rfl rfl rfl ?_
  refine gi_new (ci := 8) hX tt_8 [.int 0, .null] 118 rfl ti_8 tk_8 tdv_8 tw_387 tw_98 tw_72 (Nat.le_of_ble_eq_true rfl) (Nat.le_of_ble_eq_true rfl) dw_Schemes_init_115 rfl (fun q9 => ?_)
  refine gi_dup hX 119 dw_Schemes_init_118 rfl rfl ?_
  refine gi_sipush hX 2048 122 dw_Schemes_init_119 (by decide) rfl ?_
  refine gi_call (st := [.ref q9, .ref h0]) hX [.int 2048] 125 (ci_Ints _ 2048) hy_Ints_init rfl tw_101 tw_388 tw_100 tw_72 ⟨(Nat.le_of_ble_eq_true rfl), (Nat.le_of_ble_eq_true rfl)⟩ (Nat.le_of_ble_eq_true rfl) (Nat.le_of_ble_eq_true rfl) (Nat.le_of_ble_eq_true rfl) dw_Schemes_init_122 rfl rfl (fun w9 hw9 => ?_)
  obtain ⟨q1_9, rfl⟩ := hw9
  refine gi_putF hX 10 128 [.null, .null, .ref q1, .ref q2, .ref q3, .ref q4, .ref q5, .ref q6, .ref q7, .ref q8, .ref q9, .null, .null, .null, .null, .int 0, .int 0, .int 0] rfl ti_7 tt_7 tk_7 tn_7 (by decide) tw_400 rfl rfl rfl rfl rfl (Nat.le_of_ble_eq_true rfl) rfl dw_Schemes_init_125 rfl ?_
  refine gi_aload_n hX 0 129 dw_Schemes_init_128 rfl rfl rfl ?_
  refine gi_new (ci := 8) hX tt_8 [.int 0, .null] 132 rfl ti_8 tk_8 tdv_8 tw_387 tw_98 tw_72 (Nat.le_of_ble_eq_true rfl) (Nat.le_of_ble_eq_true rfl) dw_Schemes_init_129 rfl (fun q10 => ?_)
  refine gi_dup hX 133 dw_Schemes_init_132 rfl rfl ?_
  refine gi_sipush hX 2048 136 dw_Schemes_init_133 (by decide) rfl ?_
  refine gi_call (st := [.ref q10, .ref h0]) hX [.int 2048] 139 (ci_Ints _ 2048) hy_Ints_init rfl tw_101 tw_388 tw_100 tw_72 ⟨(Nat.le_of_ble_eq_true rfl), (Nat.le_of_ble_eq_true rfl)⟩ (Nat.le_of_ble_eq_true rfl) (Nat.le_of_ble_eq_true rfl) (Nat.le_of_ble_eq_true rfl) dw_Schemes_init_136 rfl rfl (fun w10 hw10 => ?_)
  obtain ⟨q1_10, rfl⟩ := hw10
  refine gi_putF hX 11 142 [.null, .null, .ref q1, .ref q2, .ref q3, .ref q4, .ref q5, .ref q6, .ref q7, .ref q8, .ref q9, .ref q10, .null, .null, .null, .int 0, .int 0, .int 0] rfl ti_7 tt_7 tk_7 tn_7 (by decide) tw_402 rfl rfl rfl rfl rfl (Nat.le_of_ble_eq_true rfl) rfl dw_Schemes_init_139 rfl ?_
  refine gi_aload_n hX 0 143 dw_Schemes_init_142 rfl rfl rfl ?_
  refine gi_new (ci := 8) hX tt_8 [.int 0, .null] 146 rfl ti_8 tk_8 tdv_8 tw_387 tw_98 tw_72 (Nat.le_of_ble_eq_true rfl) (Nat.le_of_ble_eq_true rfl) dw_Schemes_init_143 rfl (fun q11 => ?_)
  refine gi_dup hX 147 dw_Schemes_init_146 rfl rfl ?_
  refine gi_sipush hX 2048 150 dw_Schemes_init_147 (by decide) rfl ?_
  refine gi_call (st := [.ref q11, .ref h0]) hX [.int 2048] 153 (ci_Ints _ 2048) hy_Ints_init rfl tw_101 tw_388 tw_100 tw_72 ⟨(Nat.le_of_ble_eq_true rfl), (Nat.le_of_ble_eq_true rfl)⟩ (Nat.le_of_ble_eq_true rfl) (Nat.le_of_ble_eq_true rfl) (Nat.le_of_ble_eq_true rfl) dw_Schemes_init_150 rfl rfl (fun w11 hw11 => ?_)
  obtain ⟨q1_11, rfl⟩ := hw11
  refine gi_putF hX 12 156 [.null, .null, .ref q1, .ref q2, .ref q3, .ref q4, .ref q5, .ref q6, .ref q7, .ref q8, .ref q9, .ref q10, .ref q11, .null, .null, .int 0, .int 0, .int 0] rfl ti_7 tt_7 tk_7 tn_7 (by decide) tw_404 rfl rfl rfl rfl rfl (Nat.le_of_ble_eq_true rfl) rfl dw_Schemes_init_153 rfl ?_
  refine gi_aload_n hX 0 157 dw_Schemes_init_156 rfl rfl rfl ?_
  refine gi_new (ci := 8) hX tt_8 [.int 0, .null] 160 rfl ti_8 tk_8 tdv_8 tw_387 tw_98 tw_72 (Nat.le_of_ble_eq_true rfl) (Nat.le_of_ble_eq_true rfl) dw_Schemes_init_157 rfl (fun q12 => ?_)
  refine gi_dup hX 161 dw_Schemes_init_160 rfl rfl ?_
  refine gi_sipush hX 2048 164 dw_Schemes_init_161 (by decide) rfl ?_
  refine gi_call (st := [.ref q12, .ref h0]) hX [.int 2048] 167 (ci_Ints _ 2048) hy_Ints_init rfl tw_101 tw_388 tw_100 tw_72 ⟨(Nat.le_of_ble_eq_true rfl), (Nat.le_of_ble_eq_true rfl)⟩ (Nat.le_of_ble_eq_true rfl) (Nat.le_of_ble_eq_true rfl) (Nat.le_of_ble_eq_true rfl) dw_Schemes_init_164 rfl rfl (fun w12 hw12 => ?_)
  obtain ⟨q1_12, rfl⟩ := hw12
  refine gi_putF hX 13 170 [.null, .null, .ref q1, .ref q2, .ref q3, .ref q4, .ref q5, .ref q6, .ref q7, .ref q8, .ref q9, .ref q10, .ref q11, .ref q12, .null, .int 0, .int 0, .int 0] rfl ti_7 tt_7 tk_7 tn_7 (by decide) tw_405 rfl rfl rfl rfl rfl (Nat.le_of_ble_eq_true rfl) rfl dw_Schemes_init_167 rfl ?_
  refine gi_aload_n hX 0 171 dw_Schemes_init_170 rfl rfl rfl ?_
  refine gi_new (ci := 8) hX tt_8 [.int 0, .null] 174 rfl ti_8 tk_8 tdv_8 tw_387 tw_98 tw_72 (Nat.le_of_ble_eq_true rfl) (Nat.le_of_ble_eq_true rfl) dw_Schemes_init_171 rfl (fun q13 => ?_)
  refine gi_dup hX 175 dw_Schemes_init_174 rfl rfl ?_
  refine gi_sipush hX 16384 178 dw_Schemes_init_175 (by decide) rfl ?_
  refine gi_call (st := [.ref q13, .ref h0]) hX [.int 16384] 181 (ci_Ints _ 16384) hy_Ints_init rfl tw_101 tw_388 tw_100 tw_72 ⟨(Nat.le_of_ble_eq_true rfl), (Nat.le_of_ble_eq_true rfl)⟩ (Nat.le_of_ble_eq_true rfl) (Nat.le_of_ble_eq_true rfl) (Nat.le_of_ble_eq_true rfl) dw_Schemes_init_178 rfl rfl (fun w13 hw13 => ?_)
  obtain ⟨q1_13, rfl⟩ := hw13
  refine gi_putF hX 14 184 [.null, .null, .ref q1, .ref q2, .ref q3, .ref q4, .ref q5, .ref q6, .ref q7, .ref q8, .ref q9, .ref q10, .ref q11, .ref q12, .ref q13, .int 0, .int 0, .int 0] rfl ti_7 tt_7 tk_7 tn_7 (by decide) tw_406 rfl rfl rfl rfl rfl (Nat.le_of_ble_eq_true rfl) rfl dw_Schemes_init_181 rfl ?_
  refine gi_aload_n hX 0 185 dw_Schemes_init_184 rfl rfl rfl ?_
  refine gi_iconst hX 0 186 dw_Schemes_init_185 (by decide) rfl ?_
  refine gi_put hX 15 189 [.null, .null, .ref q1, .ref q2, .ref q3, .ref q4, .ref q5, .ref q6, .ref q7, .ref q8, .ref q9, .ref q10, .ref q11, .ref q12, .ref q13, .int 0, .int 0, .int 0] rfl ti_7 tt_7 tk_7 tn_7 (by decide) tw_407 rfl rfl rfl rfl (Nat.le_of_ble_eq_true rfl) rfl dw_Schemes_init_186 rfl ?_
  refine gi_aload_n hX 0 190 dw_Schemes_init_189 rfl rfl rfl ?_
  refine gi_iconst hX 0 191 dw_Schemes_init_190 (by decide) rfl ?_
  refine gi_put hX 16 194 [.null, .null, .ref q1, .ref q2, .ref q3, .ref q4, .ref q5, .ref q6, .ref q7, .ref q8, .ref q9, .ref q10, .ref q11, .ref q12, .ref q13, .int 0, .int 0, .int 0] rfl ti_7 tt_7 tk_7 tn_7 (by decide) tw_409 rfl rfl rfl rfl (Nat.le_of_ble_eq_true rfl) rfl dw_Schemes_init_191 rfl ?_
  refine gi_aload_n hX 0 195 dw_Schemes_init_194 rfl rfl rfl ?_
  refine gi_iconst hX 0 196 dw_Schemes_init_195 (by decide) rfl ?_
  refine gi_put hX 17 199 [.null, .null, .ref q1, .ref q2, .ref q3, .ref q4, .ref q5, .ref q6, .ref q7, .ref q8, .ref q9, .ref q10, .ref q11, .ref q12, .ref q13, .int 0, .int 0, .int 0] rfl ti_7 tt_7 tk_7 tn_7 (by decide) tw_411 rfl rfl rfl rfl (Nat.le_of_ble_eq_true rfl) rfl dw_Schemes_init_196 rfl ?_
  refine gi_aload_n hX 0 200 dw_Schemes_init_199 rfl rfl rfl ?_
  refine gi_aload_n hX 1 201 dw_Schemes_init_200 rfl rfl rfl ?_
  refine gi_putF hX 0 204 [.ref A1, .null, .ref q1, .ref q2, .ref q3, .ref q4, .ref q5, .ref q6, .ref q7, .ref q8, .ref q9, .ref q10, .ref q11, .ref q12, .ref q13, .int 0, .int 0, .int 0] rfl ti_7 tt_7 tk_7 tn_7 (by decide) tw_390 rfl rfl rfl rfl rfl (Nat.le_of_ble_eq_true rfl) rfl dw_Schemes_init_201 rfl ?_
  refine gi_aload_n hX 0 205 dw_Schemes_init_204 rfl rfl rfl ?_
  refine gi_aload_n hX 2 206 dw_Schemes_init_205 rfl rfl rfl ?_
  refine gi_putF hX 1 209 [.ref A1, .ref A2, .ref q1, .ref q2, .ref q3, .ref q4, .ref q5, .ref q6, .ref q7, .ref q8, .ref q9, .ref q10, .ref q11, .ref q12, .ref q13, .int 0, .int 0, .int 0] rfl ti_7 tt_7 tk_7 tn_7 (by decide) tw_391 rfl rfl rfl rfl rfl (Nat.le_of_ble_eq_true rfl) rfl dw_Schemes_init_206 rfl ?_
  exact gi_ret hX ⟨q1, q1_1, q2, q1_2, q3, q1_3, q4, q1_4, q5, q1_5, q6, q1_6, q7, q1_7, q8, q1_8, q9, q1_9, q10, q1_10, q11, q1_11, q12, q1_12, q13, q1_13, rfl⟩ (Nat.le_of_ble_eq_true rfl) (Nat.le_of_ble_eq_true rfl) dw_Schemes_init_209
def my_Schemes_init : MethodName := ⟨"TypeLoom$Schemes", "<init>", "(LTypeLoom$Web;LTypeLoom$Shapes;)V"⟩
theorem hy_Schemes_init : (my_Schemes_init.cls ≠ "java/lang/invoke/MethodHandle" ∧ my_Schemes_init.cls ≠ "java/lang/invoke/VarHandle") ∧ (parseMethodDescriptor my_Schemes_init.desc).map (fun d => d.parameters.length) = some 2 := by decide +kernel
theorem ci_Schemes {D : va_G} {cI cB cS cZ : ClassId} (l : Launch) (A1 : Nat) (A2 : Nat) : gi_C l (D, tq_cl, [(cI, .int), (cB, .byte), (cS, .short), (cZ, .boolean)]) my_Schemes_init prog_5_method_1_code 3 2 33 26 442 7 [.null, .null, .null, .null, .null, .null, .null, .null, .null, .null, .null, .null, .null, .null, .null, .int 0, .int 0, .int 0] [.ref A1, .ref A2] (cp_Schemes cI cB cS cZ A1 A2) := gi_met (by decide) rfl rfl (fun _ => Nat.le_of_ble_eq_true rfl) (fun X h0 _ hX => cl_Schemes hX A1 A2)
