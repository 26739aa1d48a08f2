theorem zc_keep (L : Int32) : (L = 0 ∧ kt_Schemes_canKeep tc_0 L 0 = some (tc_0, 1)) ∨ (¬ L = 0 ∧ kt_Schemes_canKeep tc_0 L 0 = some (tc_0, 0)) := by
  by_cases h0 : L = 0
  · subst h0
    refine Or.inl ⟨rfl, ?_⟩
    unfold kt_Schemes_canKeep
    simp only [gx_jn, gx_lpF]
    rfl
  · refine Or.inr ⟨h0, ?_⟩
    unfold kt_Schemes_canKeep
    by_cases h1 : L < 0
    · rw [if_pos h1]; rfl
    · rw [if_neg h1, if_neg (show ¬ L ≤ (tc_0.1 17) from fun h => h0 (Int32.le_antisymm h (Int32.not_lt.mp h1)))]; rfl
def cm_F (j118 : vb_T) : vm_T → vm_T := (fun again33 (σ16 : gx_S) (L1 : Int32) (L2 : Int32) (L3 : Int32) (L4 : Int32) => if L2 ≤ L4 then j118 σ16 L1 L2 L3 else if L3 = 0 then j118 σ16 L1 L2 L3 else gx_ld σ16 25 2048 L4 (fun r17 => gx_ld σ16 22 2049 L4 (fun r18 => gx_jn (fun (σ19 : gx_S) (L1 : Int32) (L2 : Int32) (L3 : Int32) (L4 : Int32) => gx_bv (L4 + 1) (fun x20 => again33 σ19 L1 L2 L3 x20)) (fun j112 => gx_lp (α := gx_S → Int32 → Int32 → Int32 → Int32 → Int32 → gx_R) (fun _ _ _ _ _ _ => none) (fun again60 (σ21 : gx_S) (L1 : Int32) (L2 : Int32) (L3 : Int32) (L4 : Int32) (L5 : Int32) => gx_ld σ21 22 2049 ((L4 + 1)) (fun r22 => if r22 ≤ L5 then j112 σ21 L1 L2 L3 L4 else gx_jn (fun (σ23 : gx_S) (L1 : Int32) (L2 : Int32) (L4 : Int32) (L5 : Int32) (S0 : Int32) => gx_bv (L5 + 1) (fun x24 => again60 σ23 L1 L2 S0 L4 x24)) (fun j105 => gx_jn (fun (σ25 : gx_S) (L1 : Int32) (L2 : Int32) (L4 : Int32) (L5 : Int32) => j105 σ25 L1 L2 L4 L5 0) (fun j104 => if L3 = 0 then j104 σ21 L1 L2 L4 L5 else gx_ld σ21 26 16386 L5 (fun r26 => gx_jn (fun (σ27 : gx_S) (L1 : Int32) (L2 : Int32) (L4 : Int32) (L5 : Int32) => j105 σ27 L1 L2 L4 L5 1) (fun j100 => if r26 = 2 then gx_ld σ21 27 16386 L5 (fun r28 => if L1 ≤ r28 then j104 σ21 L1 L2 L4 L5 else j100 σ21 L1 L2 L4 L5) else j100 σ21 L1 L2 L4 L5)))))) gx_F σ16 L1 L2 r17 L4 r18))))
def cm_J : vb_T := fun (σ2 : gx_S) (L1 : Int32) (L2 : Int32) (L3 : Int32) => if L3 = 0 then gx_rz σ2 0 else gx_sb (gx_si σ2 0 L1) (fun σ3 => gx_sb (gx_si σ3 8 L2) (fun σ4 => gx_ld σ4 22 2049 L2 (fun r5 => gx_sb (gx_si σ4 9 r5) (fun σ6 => gx_ld σ6 28 16386 ((σ6.1 9)) (fun r7 => gx_sb (gx_si σ6 10 r7) (fun σ8 => gx_sb (gx_si σ8 1 0) (fun σ9 => gx_sb (gx_si σ9 2 0) (fun σ10 => gx_sb (gx_si σ10 3 0) (fun σ11 => gx_sb (gx_si σ11 4 0) (fun σ12 => gx_sb (gx_si σ12 5 0) (fun σ13 => gx_sb (gx_si σ13 6 0) (fun σ14 => gx_sb (gx_si σ14 7 0) (fun σ15 => gx_rz σ15 1)))))))))))))
def cm_K (σ : gx_S) (c z g : Int32) : gx_R := gx_lp (fun _ _ _ _ _ => none) (cm_F cm_J) gx_F σ c z g 0
theorem cm_def (σ : gx_S) (c z : Int32) : km_M_clear σ c z = if c < 0 then cm_K σ c z 0 else if (σ.1 0) < c then cm_K σ c z 0 else if z < 0 then cm_K σ c z 0 else if (σ.1 8) < z then cm_K σ c z 0 else cm_K σ c z 1 := by
  unfold km_M_clear cm_K cm_F cm_J
  simp only [gx_jn]
theorem cm_end (σ : gx_S) (c z g : Int32) (h : z ≤ 0 ∨ g = 0) : cm_K σ c z g = cm_J σ c z g := by
  unfold cm_K
  rw [gx_lpF]
  generalize gx_lp (fun _ _ _ _ _ => none) (cm_F cm_J) 4294967295 = Z
  unfold cm_F
  by_cases hz : z ≤ 0
  · rw [if_pos hz]
  · rw [if_neg hz, if_pos (h.resolve_left hz)]
theorem cm_J0 (σ : gx_S) (c z : Int32) : cm_J σ c z 0 = some (σ, 0) := rfl
theorem cm_J1 (fl : Nat → Int32) : ∃ τ, cm_J (md_0 fl) 0 0 1 = some (τ, 1) := ⟨_, rfl⟩
theorem pr_clear (fl : Nat → Int32) (L1 L2 : Int32) : pq (kt_T_clear tc_0 L1 L2) (km_M_clear (md_0 fl) L1 L2) := by
  have hz : ∀ (c : Prop) [Decidable c] (a : gx_R), (if c then some (md_0 fl, (0 : Int32)) else a) = if c then some (md_0 fl, 0) else a := fun _ _ _ => rfl
  rw [cm_def, cm_end _ _ _ 0 (Or.inr rfl), cm_J0]
  by_cases h1 : L1 = 0
  · subst h1
    rw [if_neg (show ¬ (0 : Int32) < 0 by decide), if_neg (show ¬ (md_0 fl).1 0 < 0 from (by decide : ¬ (0 : Int32) < 0))]
    rcases zc_keep L2 with ⟨h2, e⟩ | ⟨h2, e⟩
    · subst h2
      rw [if_neg (show ¬ (0 : Int32) < 0 by decide), if_neg (show ¬ (md_0 fl).1 8 < 0 from (by decide : ¬ (0 : Int32) < 0)), cm_end _ _ _ 1 (Or.inl (by decide))]
      obtain ⟨τ, e2⟩ := cm_J1 fl
      have e1 : ∃ σ, kt_T_clear tc_0 0 0 = some (σ, 1) := by
        unfold kt_T_clear
        rw [if_neg (by decide), if_neg (by decide), e]
        exact ⟨_, rfl⟩
      obtain ⟨σ, e1⟩ := e1
      exact ⟨1, σ, τ, e1, e2⟩
    · have e1 : kt_T_clear tc_0 0 L2 = some (tc_0, 0) := by
        unfold kt_T_clear
        rw [if_neg (by decide), if_neg (by decide), e]
        rfl
      by_cases h3 : L2 < 0
      · rw [if_pos h3]; exact ⟨0, _, _, e1, rfl⟩
      · rw [if_neg h3, if_pos (show ((md_0 fl).1 8) < L2 from Int32.lt_of_le_of_ne (Int32.not_lt.mp h3) (fun q => h2 q.symm))]; exact ⟨0, _, _, e1, rfl⟩
  · have e1 : kt_T_clear tc_0 L1 L2 = some (tc_0, 0) := by
      unfold kt_T_clear
      by_cases h3 : L1 < 0
      · rw [if_pos h3]; rfl
      · rw [if_neg h3, if_pos (show (tc_0.1 0) < L1 from Int32.lt_of_le_of_ne (Int32.not_lt.mp h3) (fun q => h1 q.symm))]; rfl
    by_cases h3 : L1 < 0
    · rw [if_pos h3]; exact ⟨0, _, _, e1, rfl⟩
    · rw [if_neg h3, if_pos (show ((md_0 fl).1 0) < L1 from Int32.lt_of_le_of_ne (Int32.not_lt.mp h3) (fun q => h1 q.symm))]; exact ⟨0, _, _, e1, rfl⟩
