/-! THE FRESH STATES, and what one call answers there, on both sides -/
def tc_0 : gx_S := (fun k => if k = 10 then 1 else 0, fun _ _ => 0, fun _ => 0)
def md_0 (fl : Nat → Int32) : gx_S := (fun _ => 0, fun j => if j = 10 then fl else fun _ => 0, fun _ => 0)
theorem gx_lpS {α : Type} {d : α} {f : α → α} {n : Nat} : gx_lp d f (n + 1) = f (gx_lp d f n) := rfl
theorem gx_lpF {α : Type} {d : α} {f : α → α} : gx_lp d f gx_F = f (gx_lp d f 4294967295) := gx_lpS
theorem z_ty (L : Int32) : kt_Web_isType tc_0 L = some (tc_0, 0) := by
  unfold kt_Web_isType
  by_cases h : L < 0
  · rw [if_pos h]; rfl
  · rw [if_neg h, if_pos (show (tc_0.1 5) ≤ L from Int32.not_lt.mp h)]; rfl
theorem z_co (L : Int32) : kt_Constructors_has tc_0 L = some (tc_0, 0) := by
  unfold kt_Constructors_has
  by_cases h : L < 0
  · rw [if_pos h]; rfl
  · rw [if_neg h, if_pos (show (tc_0.1 0) ≤ L from Int32.not_lt.mp h)]; rfl
theorem z_sc (L : Int32) : kt_Schemes_has tc_0 L = some (tc_0, 0) := by
  unfold kt_Schemes_has
  by_cases h : L < 0
  · rw [if_pos h]; rfl
  · rw [if_neg h, if_pos (show (tc_0.1 17) ≤ L from Int32.not_lt.mp h)]; rfl
theorem zm_ty (fl : Nat → Int32) (L : Int32) : km_M_isType (md_0 fl) L = some (md_0 fl, 0) := by
  unfold km_M_isType
  by_cases h : L < 0
  · rw [if_pos h]; rfl
  · rw [if_neg h, if_pos (show ((md_0 fl).1 1) ≤ L from Int32.not_lt.mp h)]; rfl
theorem zm_sc (fl : Nat → Int32) (L : Int32) : km_M_isScheme (md_0 fl) L = some (md_0 fl, 0) := by
  unfold km_M_isScheme
  by_cases h : L < 0
  · rw [if_pos h]; rfl
  · rw [if_neg h, if_pos (show ((md_0 fl).1 8) ≤ L from Int32.not_lt.mp h)]; rfl
theorem z_fo (L : Int32) (P : Int64) : kt_Web_follow tc_0 L P = some (tc_0, -1) := by
  unfold kt_Web_follow
  rw [z_ty]
  simp only [gx_bd, gx_jn, if_true]
  rw [gx_lpF]
  rfl
theorem zm_fo (fl : Nat → Int32) (L : Int32) (P : Int64) : km_M_follow (md_0 fl) L P = some (md_0 fl, -1) := by
  unfold km_M_follow
  rw [zm_ty]
  rfl
/-- both sides answer r -/
def pq (a b : gx_R) : Prop := ∃ (r : Int32) (σ τ : gx_S), a = some (σ, r) ∧ b = some (τ, r)
theorem pr_function (fl : Nat → Int32) (L1 L2 : Int32) : pq (kt_T_function tc_0 L1 L2) (km_M_function (md_0 fl) L1 L2) := by
  unfold kt_T_function km_M_function
  rw [z_ty, zm_ty]
  exact ⟨-1, _, _, rfl, rfl⟩
theorem pr_unify (fl : Nat → Int32) (L1 L2 : Int32) : pq (kt_T_unify tc_0 L1 L2) (km_M_unify (md_0 fl) L1 L2) := by
  unfold kt_T_unify km_M_unify
  rw [z_ty, zm_ty]
  exact ⟨0, _, _, rfl, rfl⟩
theorem pr_same (fl : Nat → Int32) (L1 : Int32) (P1 : Int64) (L2 : Int32) (P2 : Int64) : pq (kt_T_same tc_0 L1 P1 L2 P2) (km_M_same (md_0 fl) L1 P1 L2 P2) := by
  unfold kt_T_same km_M_same
  rw [z_fo, zm_fo]
  simp only [gx_bd]
  rw [z_fo, zm_fo]
  exact ⟨0, _, _, rfl, rfl⟩
theorem pr_look (fl : Nat → Int32) (L1 : Int32) (P1 : Int64) (L2 : Int32) : pq (kt_T_look tc_0 L1 P1 L2) (km_M_look (md_0 fl) L1 P1 L2) := by
  unfold kt_T_look km_M_look
  rw [z_fo, zm_fo]
  exact ⟨-1, _, _, rfl, rfl⟩
theorem pr_label (fl : Nat → Int32) (L1 : Int32) (P1 : Int64) (L2 : Int32) : pq (kt_T_label tc_0 L1 P1 L2) (km_M_label (md_0 fl) L1 P1 L2) := by
  unfold kt_T_label km_M_label
  rw [z_fo, zm_fo]
  exact ⟨-1, _, _, rfl, rfl⟩
theorem pr_scheme (fl : Nat → Int32) (L1 : Int32) : pq (kt_T_scheme tc_0 L1) (km_M_scheme (md_0 fl) L1) := by
  unfold kt_T_scheme km_M_scheme
  rw [z_ty, zm_ty]
  exact ⟨-1, _, _, rfl, rfl⟩
theorem pr_quantified (fl : Nat → Int32) (L1 L2 : Int32) : pq (kt_T_quantified tc_0 L1 L2) (km_M_quantified (md_0 fl) L1 L2) := by
  unfold kt_T_quantified km_M_quantified
  rw [z_sc, zm_sc]
  exact ⟨-1, _, _, rfl, rfl⟩
theorem pr_instance (fl : Nat → Int32) (L1 : Int32) : pq (kt_T_instance tc_0 L1) (km_M_instance (md_0 fl) L1) := by
  unfold kt_T_instance km_M_instance
  rw [z_sc, zm_sc]
  exact ⟨-1, _, _, rfl, rfl⟩
theorem pr_alike (fl : Nat → Int32) (L1 L2 : Int32) : pq (kt_T_alike tc_0 L1 L2) (km_M_alike (md_0 fl) L1 L2) := by
  unfold kt_T_alike km_M_alike
  rw [z_sc, zm_sc]
  exact ⟨0, _, _, rfl, rfl⟩
theorem pr_built (fl : Nat → Int32) (L1 : Int32) : pq (kt_T_built tc_0 L1) (km_M_built (md_0 fl) L1) := by
  unfold kt_T_built km_M_built
  rw [z_co]
  by_cases h : L1 < 0
  · rw [if_pos h]; exact ⟨-1, _, _, rfl, rfl⟩
  · rw [if_neg h, if_pos (show ((md_0 fl).1 0) ≤ L1 from Int32.not_lt.mp h)]; exact ⟨-1, _, _, rfl, rfl⟩
theorem pr_level (fl : Nat → Int32) (L1 : Int32) : pq (kt_T_level tc_0 L1) (km_M_level (md_0 fl) L1) := by
  unfold kt_T_level km_M_level
  by_cases h : L1 < 0
  · rw [if_pos h, if_pos h]; exact ⟨-1, _, _, rfl, rfl⟩
  · rw [if_neg h, if_neg h]
    by_cases h2 : L1 ≤ 100
    · rw [if_pos h2, if_pos h2]; exact ⟨0, _, _, rfl, rfl⟩
    · rw [if_neg h2, if_neg h2]; exact ⟨-1, _, _, rfl, rfl⟩
set_option maxRecDepth 100000 in
theorem pr_constructor (fl : Nat → Int32) (L1 L2 : Int32) : pq (kt_T_constructor tc_0 L1 L2) (km_M_constructor (md_0 fl) L1 L2) := by
  unfold kt_T_constructor km_M_constructor
  by_cases h : L1 < 0
  · rw [if_pos h, if_pos h]; exact ⟨-1, _, _, rfl, rfl⟩
  · rw [if_neg h, if_neg h]
    by_cases h2 : 8 < L1
    · rw [if_pos h2, if_pos h2]; exact ⟨-1, _, _, rfl, rfl⟩
    · rw [if_neg h2, if_neg h2]
      by_cases h3 : L2 < 0
      · rw [if_pos h3, if_pos h3]; exact ⟨-1, _, _, rfl, rfl⟩
      · rw [if_neg h3, if_neg h3]
        by_cases h4 : L2 ≤ 2
        · rw [if_pos h4, if_pos h4]
          have hst : ∀ (σ : gx_S) (j : Nat) (v : Int32) (k : gx_S → gx_R), σ.1 0 = 0 → gx_st σ j 2048 (σ.1 0) v k = k (gx_sa σ j 0 v) := fun σ j v k h => by rw [h]; rfl
          have hfin : ∀ S : gx_S, S.1 0 = 0 → gx_sb (gx_si S 0 (S.1 0 + 1)) (fun σ3 => some (σ3, σ3.1 0 - 1)) = some (gx_si S 0 (S.1 0 + 1), 0) := fun S h => by
            unfold gx_sb
            rw [h]
            exact congrArg (fun r => some (gx_si S 0 (0 + 1), r)) (by decide : ((0 : Int32) + 1) - 1 = 0)
          have hpt : ∀ (σ : gx_S) (j : Nat) (v : Int32), σ.1 0 = 0 → (0 : Int32) < tc_lim j → tc_pt σ j (σ.1 0) v = some (gx_sa σ j 0 v, 0) := fun σ j v h hl => by
            rw [h]; unfold tc_pt; rw [if_neg (by decide), if_pos hl, if_pos (by decide)]; rfl
          have e1 : ∃ σ, gx_bd (kt_Constructors_add tc_0 L1 L2) (fun σ1 r2 => some (σ1, r2)) = some (σ, 0) := by
            unfold kt_Constructors_add
            rw [if_pos (show tc_0.1 0 < 2048 by decide), hpt tc_0 0 L1 rfl (by decide)]
            simp only [gx_bd]
            rw [hpt _ 1 L2 rfl (by decide)]
            have e := hfin (gx_sa (gx_sa tc_0 0 0 L1) 1 0 L2) rfl
            refine ⟨gx_si (gx_sa (gx_sa tc_0 0 0 L1) 1 0 L2) 0 ((gx_sa (gx_sa tc_0 0 0 L1) 1 0 L2).1 0 + 1), ?_⟩
            show (match gx_sb (gx_si (gx_sa (gx_sa tc_0 0 0 L1) 1 0 L2) 0 ((gx_sa (gx_sa tc_0 0 0 L1) 1 0 L2).1 0 + 1)) (fun σ5 => some (σ5, σ5.1 0 - 1)) with
              | none => none
              | some o => some (o.1, o.2)) = _
            rw [e]
          obtain ⟨σ, e1⟩ := e1
          rw [if_neg (show ¬ (md_0 fl).1 0 = 2048 from (by decide : ¬ (0 : Int32) = 2048)), hst _ _ _ _ rfl, hst _ _ _ _ rfl]
          exact ⟨0, σ, _, e1, hfin (gx_sa (gx_sa (md_0 fl) 0 0 (vp_nar .byte (Int32.toInt8 L1).toInt32)) 1 0 (vp_nar .byte (Int32.toInt8 L2).toInt32)) rfl⟩
        · rw [if_neg h4, if_neg h4]; exact ⟨-1, _, _, rfl, rfl⟩
theorem pr_count (fl : Nat → Int32) (L1 : Int32) : pq (kt_T_count tc_0 L1) (km_M_count (md_0 fl) L1) := by
  unfold kt_T_count km_M_count
  by_cases h0 : L1 = 0
  · rw [if_pos h0, if_pos h0]; exact ⟨0, _, _, rfl, rfl⟩
  by_cases h1 : L1 = 1
  · rw [if_neg h0, if_pos h1, if_neg h0, if_pos h1]; exact ⟨0, _, _, rfl, rfl⟩
  by_cases h2 : L1 = 2
  · rw [if_neg h0, if_neg h1, if_pos h2, if_neg h0, if_neg h1, if_pos h2]; exact ⟨0, _, _, rfl, rfl⟩
  by_cases h3 : L1 = 3
  · rw [if_neg h0, if_neg h1, if_neg h2, if_pos h3, if_neg h0, if_neg h1, if_neg h2, if_pos h3]; exact ⟨0, _, _, rfl, rfl⟩
  by_cases h4 : L1 = 4
  · rw [if_neg h0, if_neg h1, if_neg h2, if_neg h3, if_pos h4, if_neg h0, if_neg h1, if_neg h2, if_neg h3, if_pos h4]; exact ⟨0, _, _, rfl, rfl⟩
  by_cases h5 : L1 = 5
  · rw [if_neg h0, if_neg h1, if_neg h2, if_neg h3, if_neg h4, if_pos h5, if_neg h0, if_neg h1, if_neg h2, if_neg h3, if_neg h4, if_pos h5]; exact ⟨0, _, _, rfl, rfl⟩
  by_cases h6 : L1 = 6
  · rw [if_neg h0, if_neg h1, if_neg h2, if_neg h3, if_neg h4, if_neg h5, if_pos h6, if_neg h0, if_neg h1, if_neg h2, if_neg h3, if_neg h4, if_neg h5, if_pos h6]; exact ⟨0, _, _, rfl, rfl⟩
  by_cases h7 : L1 = 7
  · rw [if_neg h0, if_neg h1, if_neg h2, if_neg h3, if_neg h4, if_neg h5, if_neg h6, if_pos h7, if_neg h0, if_neg h1, if_neg h2, if_neg h3, if_neg h4, if_neg h5, if_neg h6, if_pos h7]; exact ⟨0, _, _, rfl, rfl⟩
  by_cases h8 : L1 = 8
  · rw [if_neg h0, if_neg h1, if_neg h2, if_neg h3, if_neg h4, if_neg h5, if_neg h6, if_neg h7, if_pos h8, if_neg h0, if_neg h1, if_neg h2, if_neg h3, if_neg h4, if_neg h5, if_neg h6, if_neg h7, if_pos h8]; exact ⟨0, _, _, rfl, rfl⟩
  rw [if_neg h0, if_neg h1, if_neg h2, if_neg h3, if_neg h4, if_neg h5, if_neg h6, if_neg h7, if_neg h8, if_neg h0, if_neg h1, if_neg h2, if_neg h3, if_neg h4, if_neg h5, if_neg h6, if_neg h7, if_neg h8]
  exact ⟨-1, _, _, rfl, rfl⟩
theorem pr_push (fl : Nat → Int32) (L1 L2 : Int32) : pq (kt_T_push tc_0 L1 L2) (km_M_push (md_0 fl) L1 L2) := by
  have h1 : ∃ σ, kt_T_push tc_0 L1 L2 = some (σ, -1) := by
    unfold kt_T_push
    by_cases h : L1 < -1
    · rw [if_pos h]; exact ⟨_, rfl⟩
    · rw [if_neg h]
      by_cases h2 : 32767 < L1
      · rw [if_pos h2]; exact ⟨_, rfl⟩
      · rw [if_neg h2, z_ty]; exact ⟨_, rfl⟩
  have h2 : ∃ τ, km_M_push (md_0 fl) L1 L2 = some (τ, -1) := by
    unfold km_M_push
    simp only [gx_jn]
    rw [zm_ty]
    simp only [gx_bd, if_true, ite_self, gx_lpF]
    exact ⟨_, rfl⟩
  obtain ⟨σ, e1⟩ := h1
  obtain ⟨τ, e2⟩ := h2
  exact ⟨-1, σ, τ, e1, e2⟩
set_option maxRecDepth 100000 in
theorem pr_record (fl : Nat → Int32) (L1 : Int32) (h : L1 = 0 ∨ L1 = 1) : pq (kt_T_record tc_0 L1) (km_M_record (md_0 fl) L1) := by
  rcases h with rfl | rfl
  · exact ⟨0, _, _, rfl, rfl⟩
  · exact ⟨0, _, _, rfl, rfl⟩
set_option maxRecDepth 100000 in
theorem pr_rigid (fl : Nat → Int32) (L1 : Int32) (h : L1 = 0 ∨ L1 = 1) : pq (kt_T_rigid tc_0 L1) (km_M_rigid (md_0 fl) L1) := by
  rcases h with rfl | rfl
  · exact ⟨0, _, _, rfl, rfl⟩
  · exact ⟨0, _, _, rfl, rfl⟩
