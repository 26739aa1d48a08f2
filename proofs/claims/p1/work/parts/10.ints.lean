
theorem tc_Oi (ob : Nat → Nat) (σ : gx_S) (j : Nat) : tc_O ob σ (8 + j) = (8, [.int (tc_lim j), .ref (ob (55 + j))]) := by
  unfold tc_O
  rw [if_neg (show ¬ 8 + j = 0 by omega), if_neg (show ¬ 8 + j = 1 by omega), if_neg (show ¬ 8 + j = 2 by omega), if_neg (show ¬ 8 + j = 3 by omega), if_neg (show ¬ 8 + j = 4 by omega), if_neg (show ¬ 8 + j = 5 by omega), if_neg (show ¬ 8 + j = 6 by omega), if_neg (show ¬ 8 + j = 7 by omega), show 8 + j - 8 = j by omega, show 47 + (8 + j) = 55 + j by omega]
def tc_at (σ : gx_S) (j : Nat) (i : Int32) : Int32 := if i < 0 then 0 else if 32 ≤ i then 0 else σ.2.1 j i.toNatClampNeg
def tc_pt (σ : gx_S) (j : Nat) (i v : Int32) : gx_R := if i < 0 then some (σ, 0) else if i < tc_lim j then (if i < 32 then gx_st σ j 32 i v (fun σ' => some (σ', 0)) else none) else some (σ, 0)
theorem tc_in {i : Int32} (h1 : ¬ i < 0) (h2 : i < 32) : ¬ (i < 0 ∨ 32 ≤ i.toNatClampNeg) := by
  obtain ⟨k, hk, rfl⟩ := nI_of h1
  have h3 : k < 32 := (nI_ltI hk (by decide)).mp h2
  rw [nI_clamp hk]
  intro h
  rcases h with h | h
  · exact h1 h
  · omega
section TCI
variable {D : va_G} {ob : Nat → Nat} {cA : ClassId} {X : gx_X} {cc : ByteArray} {own : String} {nL fr lo : Nat} {rt : Option FieldType} {res : gx_R} {σ : gx_S} {pc : Nat} {lv : List (Nat × Value)} {st : List Value}
theorem tg_I (hX : gx_K (tc_V D ob cA) X cc own nL fr lo rt) {idx : Nat} {v : Value} (j f n : Nat) (hj : j < 47) (hf : f < 2) (hlink : Cond.fieldLink own idx (tf_8 f).1 (tf_8 f).2.1 (tf_8 f).2.2.1 ∈ gx_T) (hv : ([.int (tc_lim j), .ref (ob (55 + j))] : List Value)[f]? = some v) (hd : decode cc pc = .ok (.getfield idx, 3)) (hn : pc + 3 = n) (kk : gx_G (tc_V D ob cA) X res σ n lv (v :: st)) : gx_G (tc_V D ob cA) X res σ pc lv (.ref (ob (8 + j)) :: st) := gf_get (u := tc_u ob cA) hX (8 + j) f n (show 8 + j < 55 by omega) rfl ti_8 hf hlink (by show (tc_O ob σ (8 + j)).1 = 8; rw [tc_Oi]) (by show (tc_O ob σ (8 + j)).2[f]? = _; rw [tc_Oi]; exact hv) hd hn kk
set_option maxRecDepth 100000 in
theorem tl_Ints_at (hX : gx_K (tc_V D ob cA) X prog_3_method_2_code "TypeLoom$Ints" 2 0 0 (some .int)) (σ : gx_S) (j : Nat) (hj : j < 47) (L1 : Int32) : gx_G (tc_V D ob cA) X (some (σ, tc_at σ j L1)) σ 0 [(0, .ref (ob (8 + j))), (1, .int L1)] [] := by
  have e : (some (σ, tc_at σ j L1) : gx_R) = if L1 < 0 then some (σ, 0) else if 32 ≤ L1 then some (σ, 0) else gx_ld σ j 32 L1 (fun r => some (σ, r)) := by
    unfold tc_at gx_ld
    by_cases h : L1 < 0
    · rw [if_pos h, if_pos h]
    · rw [if_neg h, if_neg h]
      by_cases h2 : 32 ≤ L1
      · rw [if_pos h2, if_pos h2]
      · rw [if_neg h2, if_neg h2, if_neg (tc_in h (Int32.not_le.mp h2))]
  rw [e]
  refine gx_iload_n hX 1 1 dw_Ints_at_0 rfl rfl rfl ?_
  refine gx_if_lt hX 22 4 dw_Ints_at_1 (by decide) rfl (fun _ => ?_) (fun _ => ?_)
  · refine gx_iconst hX 0 23 dw_Ints_at_22 (by decide) rfl ?_
    exact gx_ret hX dw_Ints_at_23
  · refine gx_iload_n hX 1 5 dw_Ints_at_4 rfl rfl rfl ?_
    refine gx_aload_n hX 0 6 dw_Ints_at_5 rfl rfl rfl ?_
    refine tg_I hX j 1 9 hj (by decide) tw_104 rfl dw_Ints_at_6 rfl ?_
    refine gf_alen (u := tc_u ob cA) hX j (55 + j) 0 10 32 (show j < 47 from hj) rfl rfl (show Int32.ofNat 32 = 32 by decide) dw_Ints_at_9 rfl ?_
    refine gx_icmp_ge hX 22 13 dw_Ints_at_10 (by decide) rfl (fun _ => ?_) (fun _ => ?_)
    · refine gx_iconst hX 0 23 dw_Ints_at_22 (by decide) rfl ?_
      exact gx_ret hX dw_Ints_at_23
    · refine gx_aload_n hX 0 14 dw_Ints_at_13 rfl rfl rfl ?_
      refine tg_I hX j 1 17 hj (by decide) tw_104 rfl dw_Ints_at_14 rfl ?_
      refine gx_iload_n hX 1 18 dw_Ints_at_17 rfl rfl rfl ?_
      refine gf_iald (u := tc_u ob cA) hX j (55 + j) 0 19 (show j < 47 from hj) rfl rfl dw_Ints_at_18 rfl (fun r => ?_)
      refine gx_goto hX 23 dw_Ints_at_19 (by decide) ?_
      exact gx_ret hX dw_Ints_at_23
set_option maxRecDepth 100000 in
theorem tl_Ints_put (hX : gx_K (tc_V D ob cA) X prog_3_method_3_code "TypeLoom$Ints" 3 0 0 none) (σ : gx_S) (j : Nat) (hj : j < 47) (L1 L2 : Int32) : gx_G (tc_V D ob cA) X (tc_pt σ j L1 L2) σ 0 [(0, .ref (ob (8 + j))), (1, .int L1), (2, .int L2)] [] := by
  unfold tc_pt
  refine gx_iload_n hX 1 1 dw_Ints_put_0 rfl rfl rfl ?_
  refine gx_if_lt hX 12 4 dw_Ints_put_1 (by decide) rfl (fun _ => ?_) (fun _ => ?_)
  · exact gx_retv hX dw_Ints_put_12
  · refine gx_iload_n hX 1 5 dw_Ints_put_4 rfl rfl rfl ?_
    refine gx_aload_n hX 0 6 dw_Ints_put_5 rfl rfl rfl ?_
    refine tg_I hX j 0 9 hj (by decide) tw_103 rfl dw_Ints_put_6 rfl ?_
    refine gx_icmp_lt hX 13 12 dw_Ints_put_9 (by decide) rfl (fun _ => ?_) (fun _ => ?_)
    · refine gx_iload_n hX 1 14 dw_Ints_put_13 rfl rfl rfl ?_
      refine gx_aload_n hX 0 15 dw_Ints_put_14 rfl rfl rfl ?_
      refine tg_I hX j 1 18 hj (by decide) tw_104 rfl dw_Ints_put_15 rfl ?_
      refine gf_alen (u := tc_u ob cA) hX j (55 + j) 0 19 32 (show j < 47 from hj) rfl rfl (show Int32.ofNat 32 = 32 by decide) dw_Ints_put_18 rfl ?_
      refine gx_icmp_lt hX 53 22 dw_Ints_put_19 (by decide) rfl (fun _ => ?_) (fun _ => ?_)
      · refine gx_aload_n hX 0 54 dw_Ints_put_53 rfl rfl rfl ?_
        refine tg_I hX j 1 57 hj (by decide) tw_104 rfl dw_Ints_put_54 rfl ?_
        refine gx_iload_n hX 1 58 dw_Ints_put_57 rfl rfl rfl ?_
        refine gx_iload_n hX 2 59 dw_Ints_put_58 rfl rfl rfl ?_
        refine gf_iast (u := tc_u ob cA) hX j (55 + j) 0 60 (show j < 47 from hj) rfl rfl (fun _ _ _ => rfl) dw_Ints_put_59 rfl (fun σ' => ?_)
        exact gx_retv hX dw_Ints_put_60
      · exact gx_none
    · exact gx_retv hX dw_Ints_put_12
end TCI
def my_Ints_at : MethodName := ⟨"TypeLoom$Ints", "at", "(I)I"⟩
def my_Ints_put : MethodName := ⟨"TypeLoom$Ints", "put", "(II)V"⟩
theorem hy_Ints_at : (my_Ints_at.cls ≠ "java/lang/invoke/MethodHandle" ∧ my_Ints_at.cls ≠ "java/lang/invoke/VarHandle") ∧ (parseMethodDescriptor my_Ints_at.desc).map (fun d => d.parameters.length) = some 1 := by decide +kernel
theorem hy_Ints_put : (my_Ints_put.cls ≠ "java/lang/invoke/MethodHandle" ∧ my_Ints_put.cls ≠ "java/lang/invoke/VarHandle") ∧ (parseMethodDescriptor my_Ints_put.desc).map (fun d => d.parameters.length) = some 2 := by decide +kernel
theorem tm_Ints_at {D : va_G} {ob : Nat → Nat} {cA : ClassId} (l : Launch) (σ : gx_S) (j : Nat) (hj : j < 47) (L1 : Int32) : gx_C l (tc_V D ob cA) my_Ints_at prog_3_method_2_code 2 (some .int) 0 0 [.ref (ob (8 + j)), .int L1] σ (some (σ, tc_at σ j L1)) := gx_met (by decide) rfl (Nat.le_of_ble_eq_true rfl) rfl (fun X _ hX => tl_Ints_at hX σ j hj L1)
theorem tm_Ints_put {D : va_G} {ob : Nat → Nat} {cA : ClassId} (l : Launch) (σ : gx_S) (j : Nat) (hj : j < 47) (L1 L2 : Int32) : gx_C l (tc_V D ob cA) my_Ints_put prog_3_method_3_code 3 none 0 0 [.ref (ob (8 + j)), .int L1, .int L2] σ (tc_pt σ j L1 L2) := gx_met (by decide) rfl (Nat.le_of_ble_eq_true rfl) rfl (fun X _ hX => tl_Ints_put hX σ j hj L1 L2)
section TCJ
variable {D : va_G} {ob : Nat → Nat} {cA : ClassId} {X : gx_X} {cc : ByteArray} {own : String} {nL fr lo : Nat} {rt : Option FieldType} {σ : gx_S} {pc : Nat} {lv : List (Nat × Value)} {st : List Value}
theorem tc_recvI (j : Nat) (hj : j < 47) : ∃ (q0 ci : Nat) (q : u_T × Nat), (tc_V D ob cA).1.2.1[ci]? = some ("TypeLoom$Ints", q) ∧ ∀ ar, ∃ fs, ((tc_V D ob cA).2.1 ar σ)[q0]? = some (ob (8 + j), .inr (ci, fs)) := gf_recv (u := tc_u ob cA) (8 + j) (show 8 + j < 55 by omega) rfl (by show (tc_O ob σ (8 + j)).1 = 8; rw [tc_Oi])
theorem tr_at (hX : gx_K (tc_V D ob cA) X cc own nL fr lo rt) {idx q : Nat} {i : Int32} {k : Int32 → gx_R} (j n : Nat) (hj : j < 47 ∧ 8 + j = q) (hlink : Cond.methodLink own idx ({ cls := "TypeLoom$Ints", name := "at", desc := "(I)I" } : Jvm.MethodName) ∈ gx_T) (hroom : 0 + 1 ≤ fr ∧ 8 + (2 + 11) + 0 ≤ lo) (hst : (st.map fun v => v.category).sum ≤ 8) (hd : decode cc pc = .ok (.invokevirtual idx, 3)) (hn : pc + 3 = n) (kk : ∀ r, gx_G (tc_V D ob cA) X (k r) σ n lv (.int r :: st)) : gx_G (tc_V D ob cA) X (gx_bv (tc_at σ j i) k) σ pc lv (.int i :: .ref (ob q) :: st) := by
  obtain ⟨hj, rfl⟩ := hj
  exact gx_callI (resy := some (σ, tc_at σ j i)) (k := fun _ r => k r) hX [.int i] n rfl (tm_Ints_at _ σ j hj i) hy_Ints_at tw_522 hlink tw_520 tw_521 tw_72 (tc_recvI j hj) hroom hst hd hn rfl (fun σ' r h => by cases h; exact kk _)
theorem tr_put (hX : gx_K (tc_V D ob cA) X cc own nL fr lo rt) {idx q : Nat} {i v : Int32} {k : gx_S → Int32 → gx_R} (j n : Nat) (hj : j < 47 ∧ 8 + j = q) (hlink : Cond.methodLink own idx ({ cls := "TypeLoom$Ints", name := "put", desc := "(II)V" } : Jvm.MethodName) ∈ gx_T) (hroom : 0 + 1 ≤ fr ∧ 8 + (3 + 11) + 0 ≤ lo) (hst : (st.map fun v => v.category).sum ≤ 8) (hd : decode cc pc = .ok (.invokevirtual idx, 3)) (hn : pc + 3 = n) (kk : ∀ σ' r, gx_G (tc_V D ob cA) X (k σ' r) σ' n lv st) : gx_G (tc_V D ob cA) X (gx_bd (tc_pt σ j i v) k) σ pc lv (.int v :: .int i :: .ref (ob q) :: st) := by
  obtain ⟨hj, rfl⟩ := hj
  exact gx_callW hX [.int i, .int v] n (tm_Ints_put _ σ j hj i v) hy_Ints_put tw_486 hlink tw_484 tw_485 tw_72 (tc_recvI j hj) hroom hst hd hn rfl (fun σ' r _ => kk σ' r)
end TCJ
