abbrev vb_T : Type := gx_S → Int32 → Int32 → Int32 → gx_R
abbrev vm_T : Type := gx_S → Int32 → Int32 → Int32 → Int32 → gx_R
def vb_F : vb_T → vb_T := (fun again2 (σ1 : gx_S) (L1 : Int32) (L2 : Int32) (L3 : Int32) => if 31 ≤ L3 then gx_rz σ1 1 else gx_jn (fun (σ2 : gx_S) (L1 : Int32) (L2 : Int32) (L3 : Int32) (S0 : Int32) => gx_jn (fun (σ3 : gx_S) (L1 : Int32) (L2 : Int32) (L3 : Int32) => gx_bv (L3 + 1) (fun x4 => again2 σ3 L1 L2 x4)) (fun j64 => if S0 = 0 then j64 σ2 L1 L2 L3 else gx_bd (kt_Constructors_has σ2 L3) (fun σ5 r6 => if r6 = 0 then gx_rz σ5 0 else gx_bv (tc_at σ5 0 L3) (fun r7 => if r7 = 0 then if L2 = 0 then j64 σ5 L1 L2 L3 else gx_bv (tc_at σ5 1 L3) (fun r8 => if r8 = 0 then gx_rz σ5 0 else j64 σ5 L1 L2 L3) else gx_rz σ5 0)))) (fun j21 => if (((L1 >>> (L3 &&& 31))) &&& 1) = 0 then j21 σ1 L1 L2 L3 0 else j21 σ1 L1 L2 L3 1))
def vm_F (j77 : vb_T) : vm_T → vm_T := (fun again26 (σ7 : gx_S) (L1 : Int32) (L2 : Int32) (L3 : Int32) (L4 : Int32) => if 31 ≤ L4 then j77 σ7 L1 L2 L3 else gx_jn (fun (σ8 : gx_S) (L1 : Int32) (L2 : Int32) (L4 : Int32) (S0 : Int32) => gx_bv (L4 + 1) (fun x9 => again26 σ8 L1 L2 S0 x9)) (fun j70 => gx_jn (fun (σ10 : gx_S) (L1 : Int32) (L2 : Int32) (L4 : Int32) => j70 σ10 L1 L2 L4 0) (fun j69 => if L3 = 0 then j69 σ7 L1 L2 L4 else gx_jn (fun (σ11 : gx_S) (L1 : Int32) (L2 : Int32) (L4 : Int32) => j70 σ11 L1 L2 L4 1) (fun j65 => if (((L2 >>> (L4 &&& 31))) &&& 1) = 0 then j65 σ7 L1 L2 L4 else if (σ7.1 0) ≤ L4 then j69 σ7 L1 L2 L4 else gx_ld σ7 0 2048 L4 (fun r12 => if r12 = 0 then j65 σ7 L1 L2 L4 else j69 σ7 L1 L2 L4)))))
abbrev vb_bit (s : Int32) (c : Nat) : Int32 := ((s >>> (nI c &&& 31)) &&& 1)
theorem vb_lt {k : Nat} (h : k < 31) : ¬ (31 : Int32) ≤ nI k := nI_ge (b := 31) h (by decide)
theorem vb_step (again : vb_T) (s w : Int32) {k : Nat} (hk : k < 31) : vb_F again tc_0 s w (nI k) = if vb_bit s k = 0 then again tc_0 s w (nI (k + 1)) else some (tc_0, 0) := by
  unfold vb_F
  simp only [gx_jn, gx_bv, if_true]
  rw [if_neg (vb_lt hk), nI_1]
  by_cases hb : s >>> (nI k &&& 31) &&& 1 = 0
  · rw [if_pos hb, if_pos hb]
  · rw [if_neg hb, if_neg hb, if_neg (by decide), z_co]
    rfl
theorem vb_end (again : vb_T) (s w : Int32) : vb_F again tc_0 s w (nI 31) = some (tc_0, 1) := rfl
theorem vb_A (s w : Int32) : ∀ (n k : Nat), k ≤ 31 → 31 < k + n → (∀ c, k ≤ c → c < 31 → vb_bit s c = 0) → gx_lp (fun _ _ _ _ => none) vb_F n tc_0 s w (nI k) = some (tc_0, 1)
  | 0, k, h1, h2, _ => absurd h2 (by omega)
  | n + 1, k, h1, h2, h => by
    rw [gx_lpS]
    by_cases e : k = 31
    · subst e; exact vb_end _ s w
    · rw [vb_step _ s w (by omega), if_pos (h k (Nat.le_refl _) (by omega))]
      exact vb_A s w n (k + 1) (by omega) (by omega) (fun c hc => h c (by omega))
theorem vb_B (s w : Int32) : ∀ (n k : Nat), k ≤ 31 → 31 < k + n → (∃ c, k ≤ c ∧ c < 31 ∧ vb_bit s c ≠ 0) → gx_lp (fun _ _ _ _ => none) vb_F n tc_0 s w (nI k) = some (tc_0, 0)
  | 0, k, h1, h2, _ => absurd h2 (by omega)
  | n + 1, k, h1, h2, h => by
    obtain ⟨c, c1, c2, c3⟩ := h
    rw [gx_lpS, vb_step _ s w (by omega)]
    by_cases e : vb_bit s k = 0
    · rw [if_pos e]
      exact vb_B s w n (k + 1) (by omega) (by omega) ⟨c, by rcases Nat.lt_or_ge k c with q | q; exact q; exact absurd (by rw [show c = k by omega]; exact e) c3, c2, c3⟩
    · rw [if_neg e]
theorem vm_step (fl : Nat → Int32) (j : vb_T) (again : vm_T) (w s g : Int32) {k : Nat} (hk : k < 31) : vm_F j again (md_0 fl) w s g (nI k) = again (md_0 fl) w s (if g = 0 then 0 else if vb_bit s k = 0 then 1 else 0) (nI (k + 1)) := by
  unfold vm_F
  simp only [gx_jn, gx_bv]
  rw [if_neg (vb_lt hk), nI_1]
  by_cases hg : g = 0
  · rw [if_pos hg, if_pos hg]
  · rw [if_neg hg, if_neg hg]
    by_cases hb : s >>> (nI k &&& 31) &&& 1 = 0
    · rw [if_pos hb, if_pos hb]
    · rw [if_neg hb, if_neg hb, if_pos (show ((md_0 fl).1 0) ≤ nI k from nI_le (a := 0) (Nat.zero_le k) (by omega))]
theorem vm_end (fl : Nat → Int32) (j : vb_T) (again : vm_T) (w s g : Int32) : vm_F j again (md_0 fl) w s g (nI 31) = j (md_0 fl) w s g := rfl
theorem vm_0 (fl : Nat → Int32) (j : vb_T) (w s : Int32) : ∀ (n k : Nat), k ≤ 31 → 31 < k + n → gx_lp (fun _ _ _ _ _ => none) (vm_F j) n (md_0 fl) w s 0 (nI k) = j (md_0 fl) w s 0
  | 0, k, h1, h2 => absurd h2 (by omega)
  | n + 1, k, h1, h2 => by
    rw [gx_lpS]
    by_cases e : k = 31
    · subst e; exact vm_end fl j _ w s 0
    · rw [vm_step fl j _ w s 0 (by omega), if_pos rfl]
      exact vm_0 fl j w s n (k + 1) (by omega) (by omega)
theorem vm_A (fl : Nat → Int32) (j : vb_T) (w s : Int32) : ∀ (n k : Nat), k ≤ 31 → 31 < k + n → (∀ c, k ≤ c → c < 31 → vb_bit s c = 0) → gx_lp (fun _ _ _ _ _ => none) (vm_F j) n (md_0 fl) w s 1 (nI k) = j (md_0 fl) w s 1
  | 0, k, h1, h2, _ => absurd h2 (by omega)
  | n + 1, k, h1, h2, h => by
    rw [gx_lpS]
    by_cases e : k = 31
    · subst e; exact vm_end fl j _ w s 1
    · rw [vm_step fl j _ w s 1 (by omega), if_neg (by decide), if_pos (h k (Nat.le_refl _) (by omega))]
      exact vm_A fl j w s n (k + 1) (by omega) (by omega) (fun c hc => h c (by omega))
theorem vm_B (fl : Nat → Int32) (j : vb_T) (w s : Int32) : ∀ (n k : Nat), k ≤ 31 → 31 < k + n → (∃ c, k ≤ c ∧ c < 31 ∧ vb_bit s c ≠ 0) → gx_lp (fun _ _ _ _ _ => none) (vm_F j) n (md_0 fl) w s 1 (nI k) = j (md_0 fl) w s 0
  | 0, k, h1, h2, _ => absurd h2 (by omega)
  | n + 1, k, h1, h2, h => by
    obtain ⟨c, c1, c2, c3⟩ := h
    rw [gx_lpS, vm_step fl j _ w s 1 (by omega), if_neg (by decide)]
    by_cases e : vb_bit s k = 0
    · rw [if_pos e]
      exact vm_B fl j w s n (k + 1) (by omega) (by omega) ⟨c, by rcases Nat.lt_or_ge k c with q | q; exact q; exact absurd (by rw [show c = k by omega]; exact e) c3, c2, c3⟩
    · rw [if_neg e]
      exact vm_0 fl j w s n (k + 1) (by omega) (by omega)
theorem vb_sh : ∀ c, c < 31 → ((nI c &&& 31).toBitVec.smod 32).toNat = c := by decide +kernel
theorem vb_bitN {m c : Nat} (hm : m < 2 ^ 31) (hc : c < 31) : vb_bit (nI m) c = nI (m / 2 ^ c % 2) := by
  unfold vb_bit
  rw [pk_shrN hm _ c (vb_sh c hc), pk_andN (Nat.lt_of_le_of_lt (Nat.div_le_self _ _) (by omega)) 1 (by decide)]
theorem vb_some {s : Int32} (h1 : ¬ s < 0) (h2 : ¬ s = 0) : ∃ c, 0 ≤ c ∧ c < 31 ∧ vb_bit s c ≠ 0 := by
  obtain ⟨m, hm, rfl⟩ := nI_of h1
  have hm0 : m ≠ 0 := fun e => h2 (by rw [e]; rfl)
  obtain ⟨c, hc⟩ : ∃ c, m.testBit c = true := Nat.exists_testBit_of_ne_zero hm0
  have hc31 : c < 31 := by
    rcases Nat.lt_or_ge c 31 with q | q
    · exact q
    · have : m.testBit c = false := Nat.testBit_lt_two_pow (Nat.lt_of_lt_of_le hm (Nat.pow_le_pow_right (by decide) q))
      rw [this] at hc; cases hc
  refine ⟨c, Nat.zero_le _, hc31, ?_⟩
  rw [vb_bitN hm hc31]
  have h3 : m / 2 ^ c % 2 = 1 := by
    rw [Nat.testBit_eq_decide_div_mod_eq] at hc
    exact of_decide_eq_true hc
  rw [h3]
  decide
theorem vb_none (c : Nat) (hc : c < 31) : vb_bit 0 c = 0 := by
  have := vb_bitN (m := 0) (c := c) (by decide) hc
  rw [show nI 0 = 0 from nI_0] at this
  rw [this, Nat.zero_div]
  rfl
theorem vm_eq (fl : Nat → Int32) (s : Int32) : km_M_equalOnes (md_0 fl) s = some (md_0 fl, s) := by
  unfold km_M_equalOnes
  rw [gx_lpF]
  rfl
theorem vb_eq (w s : Int32) : kt_Constructors_mayBeSet tc_0 s w = gx_lp (fun _ _ _ _ => none) vb_F gx_F tc_0 s w (nI 0) := rfl
def vm_J : vb_T := fun (σ2 : gx_S) (L1 : Int32) (L2 : Int32) (L3 : Int32) => if L3 = 0 then some (σ2, (-1)) else if (σ2.1 1) = 24576 then some (σ2, (-2)) else gx_bd (km_M_make σ2 0 0) (fun σ3 r4 => gx_st σ3 8 24576 r4 (vp_nar .boolean L1) (fun σ5 => gx_st σ5 9 24576 r4 L2 (fun σ6 => some (σ6, r4))))
def vm_K (σ : gx_S) (w s g : Int32) : gx_R := gx_lp (fun _ _ _ _ _ => none) (vm_F vm_J) gx_F σ w s g 0
theorem vm_def (σ : gx_S) (w s : Int32) : km_M_variable σ w s = if s < 0 then vm_K σ w s 0 else if w = 0 then vm_K σ w s 1 else gx_bd (km_M_equalOnes σ s) (fun σ1 r => if r = s then vm_K σ1 w s 1 else vm_K σ1 w s 0) := by
  unfold km_M_variable vm_K vm_F vm_J
  simp only [gx_jn]
theorem vm_K0 (σ : gx_S) (w s g : Int32) : vm_K σ w s g = gx_lp (fun _ _ _ _ _ => none) (vm_F vm_J) gx_F σ w s g (nI 0) := by
  unfold vm_K
  rw [nI_0]
theorem vm_one (fl : Nat → Int32) (w s : Int32) (hs : ¬ s < 0) : km_M_variable (md_0 fl) w s = vm_K (md_0 fl) w s 1 := by
  rw [vm_def, if_neg hs, vm_eq]
  by_cases h : w = 0
  · rw [if_pos h]
  · rw [if_neg h]
    exact if_pos rfl
theorem vm_J0 (fl : Nat → Int32) (w s : Int32) : vm_J (md_0 fl) w s 0 = some (md_0 fl, -1) := rfl
set_option maxRecDepth 100000 in
theorem vm_J1 (fl : Nat → Int32) (w : Int32) (hw : w = 0 ∨ w = 1) : ∃ τ, vm_J (md_0 fl) w 0 1 = some (τ, 0) := by
  rcases hw with rfl | rfl
  · exact ⟨_, rfl⟩
  · exact ⟨_, rfl⟩
set_option maxRecDepth 100000 in
theorem zv_leaf (w : Int32) (hw : w = 0 ∨ w = 1) : ∃ σ, gx_bd (kt_T_leaf tc_0 0 0 w) (fun σ3 r4 => some (σ3, r4)) = some (σ, 0) := by
  rcases hw with rfl | rfl
  · exact ⟨_, rfl⟩
  · exact ⟨_, rfl⟩
theorem pr_variable (fl : Nat → Int32) (w s : Int32) (hw : w = 0 ∨ w = 1) : pq (kt_T_variable tc_0 w s) (km_M_variable (md_0 fl) w s) := by
  by_cases hs : s < 0
  · have e1 : kt_T_variable tc_0 w s = some (tc_0, -1) := by unfold kt_T_variable; rw [if_pos hs]
    have e2 : km_M_variable (md_0 fl) w s = some (md_0 fl, -1) := by
      rw [vm_def, if_pos hs, vm_K0]
      exact (vm_0 fl vm_J w s gx_F 0 (by omega) (by decide)).trans (vm_J0 fl w s)
    exact ⟨-1, _, _, e1, e2⟩
  · by_cases h0 : s = 0
    · subst h0
      have e1 : kt_Constructors_mayBeSet tc_0 0 w = some (tc_0, 1) := (vb_eq w 0).trans (vb_A 0 w gx_F 0 (by omega) (by decide) (fun c _ hc => vb_none c hc))
      obtain ⟨σ, e3⟩ := zv_leaf w hw
      obtain ⟨τ, e4⟩ := vm_J1 fl w hw
      have e5 : kt_T_variable tc_0 w 0 = some (σ, 0) := by
        unfold kt_T_variable
        rw [if_neg (by decide), e1]
        exact e3
      have e2 : km_M_variable (md_0 fl) w 0 = some (τ, 0) := by
        rw [vm_one fl w 0 (by decide), vm_K0]
        exact (vm_A fl vm_J w 0 gx_F 0 (by omega) (by decide) (fun c _ hc => vb_none c hc)).trans e4
      exact ⟨0, σ, τ, e5, e2⟩
    · have hb := vb_some hs h0
      have e1 : kt_Constructors_mayBeSet tc_0 s w = some (tc_0, 0) := (vb_eq w s).trans (vb_B s w gx_F 0 (by omega) (by decide) hb)
      have e3 : kt_T_variable tc_0 w s = some (tc_0, -1) := by
        unfold kt_T_variable
        rw [if_neg hs, e1]
        rfl
      have e2 : km_M_variable (md_0 fl) w s = some (md_0 fl, -1) := by
        rw [vm_one fl w s hs, vm_K0]
        exact (vm_B fl vm_J w s gx_F 0 (by omega) (by decide) hb).trans (vm_J0 fl w s)
      exact ⟨-1, _, _, e3, e2⟩
