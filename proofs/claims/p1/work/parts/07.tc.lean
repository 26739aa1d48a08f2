/-! TypeLoom's objects: 0 TypeLoom, 1 Constructors, 2 Pushed, 3 Web, 4 Walk, 5 Shapes, 6 Unifier, 7 Schemes, 8 + j the Ints number j; the arrays 55 + j; as long as no Ints has grown -/
def tc_lims : List Int32 := [2048, 2048, 128, 128, 25600, 25600, 25600, 25600, 25600, 25600, 25600, 25600, 25600, 131072, 131072, 24576, 25600, 25600, 25600, 25600, 25600, 65536, 25600, 25600, 25600, 25600, 25600, 25600, 1024, 25600, 25600, 25600, 25600, 25600, 16384, 16384, 16384, 16385, 32768, 32768, 2049, 2048, 2048, 2048, 2048, 2048, 16384]
def tc_lim (j : Nat) : Int32 := tc_lims.getD j 0
def tc_O (ob : Nat → Nat) (σ : gx_S) (k : Nat) : Nat × List Value :=
  if k = 0 then (0, [.ref (ob 1), .ref (ob 2), .ref (ob 3), .ref (ob 4), .ref (ob 5), .ref (ob 6), .ref (ob 7), .int (σ.1 20)])
  else if k = 1 then (1, [.ref (ob 8), .ref (ob 9), .int (σ.1 0)])
  else if k = 2 then (2, [.ref (ob 10), .ref (ob 11), .int (σ.1 1), .int (σ.1 2)])
  else if k = 3 then (3, [.ref (ob 12), .ref (ob 13), .ref (ob 14), .ref (ob 15), .ref (ob 16), .ref (ob 17), .ref (ob 18), .ref (ob 19), .ref (ob 20), .ref (ob 21), .ref (ob 22), .ref (ob 23), .int (σ.1 3), .int (σ.1 4), .int (σ.1 5), .int (σ.1 6), .int (σ.1 7)])
  else if k = 4 then (4, [.ref (ob 3), .ref (ob 1), .ref (ob 24), .ref (ob 25), .ref (ob 26), .ref (ob 27), .int (σ.1 8), .int (σ.1 9), .int (σ.1 10)])
  else if k = 5 then (5, [.ref (ob 3), .ref (ob 4), .ref (ob 28), .ref (ob 29), .ref (ob 30), .ref (ob 31), .int (σ.1 11)])
  else if k = 6 then (6, [.ref (ob 3), .ref (ob 4), .ref (ob 1), .ref (ob 32), .ref (ob 33), .ref (ob 34), .int (σ.1 12), .ref (ob 35), .int (σ.1 13), .ref (ob 36), .int (σ.1 14), .ref (ob 37), .ref (ob 38), .ref (ob 39), .ref (ob 40), .int (σ.1 15), .ref (ob 41), .int (σ.1 16)])
  else if k = 7 then (7, [.ref (ob 3), .ref (ob 5), .ref (ob 42), .ref (ob 43), .ref (ob 44), .ref (ob 45), .ref (ob 46), .ref (ob 47), .ref (ob 48), .ref (ob 49), .ref (ob 50), .ref (ob 51), .ref (ob 52), .ref (ob 53), .ref (ob 54), .int (σ.1 17), .int (σ.1 18), .int (σ.1 19)])
  else (8, [.int (tc_lim (k - 8)), .ref (ob (47 + k))])
def tc_u (ob : Nat → Nat) (cA : ClassId) : gf_U := ((55, 47), tc_O ob, (fun _ => 0), (fun _ => cA), (fun _ => 32))
def tc_V (D : va_G) (ob : Nat → Nat) (cA : ClassId) : gx_V := gf_V D tq_cl [(cA, .int)] (tc_u ob cA) ob
section TC
variable {D : va_G} {ob : Nat → Nat} {cA : ClassId} {X : gx_X} {cc : ByteArray} {own : String} {nL fr lo : Nat} {rt : Option FieldType} {res : gx_R} {σ : gx_S} {pc : Nat} {lv : List (Nat × Value)} {st : List Value}
theorem tg_0 (hX : gx_K (tc_V D ob cA) X cc own nL fr lo rt) {idx : Nat} {v : Value} (f n : Nat) (hf : f < 8) (hlink : Cond.fieldLink own idx (tf_0 f).1 (tf_0 f).2.1 (tf_0 f).2.2.1 ∈ gx_T) (hv : (tc_O ob σ 0).2[f]? = some v) (hd : decode cc pc = .ok (.getfield idx, 3)) (hn : pc + 3 = n) (kk : gx_G (tc_V D ob cA) X res σ n lv (v :: st)) : gx_G (tc_V D ob cA) X res σ pc lv (.ref (ob 0) :: st) := gf_get (u := tc_u ob cA) hX 0 f n (show 0 < 55 by decide) rfl ti_0 hf hlink rfl hv hd hn kk
theorem tg_1 (hX : gx_K (tc_V D ob cA) X cc own nL fr lo rt) {idx : Nat} {v : Value} (f n : Nat) (hf : f < 3) (hlink : Cond.fieldLink own idx (tf_1 f).1 (tf_1 f).2.1 (tf_1 f).2.2.1 ∈ gx_T) (hv : (tc_O ob σ 1).2[f]? = some v) (hd : decode cc pc = .ok (.getfield idx, 3)) (hn : pc + 3 = n) (kk : gx_G (tc_V D ob cA) X res σ n lv (v :: st)) : gx_G (tc_V D ob cA) X res σ pc lv (.ref (ob 1) :: st) := gf_get (u := tc_u ob cA) hX 1 f n (show 1 < 55 by decide) rfl ti_1 hf hlink rfl hv hd hn kk
theorem tg_2 (hX : gx_K (tc_V D ob cA) X cc own nL fr lo rt) {idx : Nat} {v : Value} (f n : Nat) (hf : f < 4) (hlink : Cond.fieldLink own idx (tf_2 f).1 (tf_2 f).2.1 (tf_2 f).2.2.1 ∈ gx_T) (hv : (tc_O ob σ 2).2[f]? = some v) (hd : decode cc pc = .ok (.getfield idx, 3)) (hn : pc + 3 = n) (kk : gx_G (tc_V D ob cA) X res σ n lv (v :: st)) : gx_G (tc_V D ob cA) X res σ pc lv (.ref (ob 2) :: st) := gf_get (u := tc_u ob cA) hX 2 f n (show 2 < 55 by decide) rfl ti_2 hf hlink rfl hv hd hn kk
theorem tg_3 (hX : gx_K (tc_V D ob cA) X cc own nL fr lo rt) {idx : Nat} {v : Value} (f n : Nat) (hf : f < 17) (hlink : Cond.fieldLink own idx (tf_3 f).1 (tf_3 f).2.1 (tf_3 f).2.2.1 ∈ gx_T) (hv : (tc_O ob σ 3).2[f]? = some v) (hd : decode cc pc = .ok (.getfield idx, 3)) (hn : pc + 3 = n) (kk : gx_G (tc_V D ob cA) X res σ n lv (v :: st)) : gx_G (tc_V D ob cA) X res σ pc lv (.ref (ob 3) :: st) := gf_get (u := tc_u ob cA) hX 3 f n (show 3 < 55 by decide) rfl ti_3 hf hlink rfl hv hd hn kk
theorem tg_4 (hX : gx_K (tc_V D ob cA) X cc own nL fr lo rt) {idx : Nat} {v : Value} (f n : Nat) (hf : f < 9) (hlink : Cond.fieldLink own idx (tf_4 f).1 (tf_4 f).2.1 (tf_4 f).2.2.1 ∈ gx_T) (hv : (tc_O ob σ 4).2[f]? = some v) (hd : decode cc pc = .ok (.getfield idx, 3)) (hn : pc + 3 = n) (kk : gx_G (tc_V D ob cA) X res σ n lv (v :: st)) : gx_G (tc_V D ob cA) X res σ pc lv (.ref (ob 4) :: st) := gf_get (u := tc_u ob cA) hX 4 f n (show 4 < 55 by decide) rfl ti_4 hf hlink rfl hv hd hn kk
theorem tg_5 (hX : gx_K (tc_V D ob cA) X cc own nL fr lo rt) {idx : Nat} {v : Value} (f n : Nat) (hf : f < 7) (hlink : Cond.fieldLink own idx (tf_5 f).1 (tf_5 f).2.1 (tf_5 f).2.2.1 ∈ gx_T) (hv : (tc_O ob σ 5).2[f]? = some v) (hd : decode cc pc = .ok (.getfield idx, 3)) (hn : pc + 3 = n) (kk : gx_G (tc_V D ob cA) X res σ n lv (v :: st)) : gx_G (tc_V D ob cA) X res σ pc lv (.ref (ob 5) :: st) := gf_get (u := tc_u ob cA) hX 5 f n (show 5 < 55 by decide) rfl ti_5 hf hlink rfl hv hd hn kk
theorem tg_6 (hX : gx_K (tc_V D ob cA) X cc own nL fr lo rt) {idx : Nat} {v : Value} (f n : Nat) (hf : f < 18) (hlink : Cond.fieldLink own idx (tf_6 f).1 (tf_6 f).2.1 (tf_6 f).2.2.1 ∈ gx_T) (hv : (tc_O ob σ 6).2[f]? = some v) (hd : decode cc pc = .ok (.getfield idx, 3)) (hn : pc + 3 = n) (kk : gx_G (tc_V D ob cA) X res σ n lv (v :: st)) : gx_G (tc_V D ob cA) X res σ pc lv (.ref (ob 6) :: st) := gf_get (u := tc_u ob cA) hX 6 f n (show 6 < 55 by decide) rfl ti_6 hf hlink rfl hv hd hn kk
theorem tg_7 (hX : gx_K (tc_V D ob cA) X cc own nL fr lo rt) {idx : Nat} {v : Value} (f n : Nat) (hf : f < 18) (hlink : Cond.fieldLink own idx (tf_7 f).1 (tf_7 f).2.1 (tf_7 f).2.2.1 ∈ gx_T) (hv : (tc_O ob σ 7).2[f]? = some v) (hd : decode cc pc = .ok (.getfield idx, 3)) (hn : pc + 3 = n) (kk : gx_G (tc_V D ob cA) X res σ n lv (v :: st)) : gx_G (tc_V D ob cA) X res σ pc lv (.ref (ob 7) :: st) := gf_get (u := tc_u ob cA) hX 7 f n (show 7 < 55 by decide) rfl ti_7 hf hlink rfl hv hd hn kk
theorem tpn_0 (ob : Nat → Nat) (σ : gx_S) (x : Int32) : ∀ q, q < 55 → q ≠ 1 → tc_O ob (gx_si σ 0 x) q = tc_O ob σ q := by
  intro q _ hq
  by_cases h0 : q = 0
  · subst h0; rfl
  by_cases h1 : q = 1
  · exact absurd h1 hq
  by_cases h2 : q = 2
  · subst h2; rfl
  by_cases h3 : q = 3
  · subst h3; rfl
  by_cases h4 : q = 4
  · subst h4; rfl
  by_cases h5 : q = 5
  · subst h5; rfl
  by_cases h6 : q = 6
  · subst h6; rfl
  by_cases h7 : q = 7
  · subst h7; rfl
  unfold tc_O
  rw [if_neg h0, if_neg h1, if_neg h2, if_neg h3, if_neg h4, if_neg h5, if_neg h6, if_neg h7, if_neg h0, if_neg h1, if_neg h2, if_neg h3, if_neg h4, if_neg h5, if_neg h6, if_neg h7]
theorem tp_0 (hX : gx_K (tc_V D ob cA) X cc own nL fr lo rt) {idx : Nat} {x : Int32} {kf : gx_S → gx_R} (n : Nat) (hlink : Cond.fieldLink own idx "TypeLoom$Constructors" "size" "I" ∈ gx_T) (hd : decode cc pc = .ok (.putfield idx, 3)) (hn : pc + 3 = n) (kk : ∀ σ', gx_G (tc_V D ob cA) X (kf σ') σ' n lv st) : gx_G (tc_V D ob cA) X (gx_sb (gx_si σ 0 x) kf) σ pc lv (.int x :: .ref (ob 1) :: st) := gf_put (u := tc_u ob cA) hX 1 2 0 n (show 1 < 55 by decide) rfl ti_1 tt_1 tk_1 tn_1 (by decide) hlink rfl rfl rfl (Nat.le_of_ble_eq_true rfl) rfl (tpn_0 ob σ x) hd hn kk
theorem tpn_1 (ob : Nat → Nat) (σ : gx_S) (x : Int32) : ∀ q, q < 55 → q ≠ 2 → tc_O ob (gx_si σ 1 x) q = tc_O ob σ q := by
  intro q _ hq
  by_cases h0 : q = 0
  · subst h0; rfl
  by_cases h1 : q = 1
  · subst h1; rfl
  by_cases h2 : q = 2
  · exact absurd h2 hq
  by_cases h3 : q = 3
  · subst h3; rfl
  by_cases h4 : q = 4
  · subst h4; rfl
  by_cases h5 : q = 5
  · subst h5; rfl
  by_cases h6 : q = 6
  · subst h6; rfl
  by_cases h7 : q = 7
  · subst h7; rfl
  unfold tc_O
  rw [if_neg h0, if_neg h1, if_neg h2, if_neg h3, if_neg h4, if_neg h5, if_neg h6, if_neg h7, if_neg h0, if_neg h1, if_neg h2, if_neg h3, if_neg h4, if_neg h5, if_neg h6, if_neg h7]
theorem tp_1 (hX : gx_K (tc_V D ob cA) X cc own nL fr lo rt) {idx : Nat} {x : Int32} {kf : gx_S → gx_R} (n : Nat) (hlink : Cond.fieldLink own idx "TypeLoom$Pushed" "size" "I" ∈ gx_T) (hd : decode cc pc = .ok (.putfield idx, 3)) (hn : pc + 3 = n) (kk : ∀ σ', gx_G (tc_V D ob cA) X (kf σ') σ' n lv st) : gx_G (tc_V D ob cA) X (gx_sb (gx_si σ 1 x) kf) σ pc lv (.int x :: .ref (ob 2) :: st) := gf_put (u := tc_u ob cA) hX 2 2 1 n (show 2 < 55 by decide) rfl ti_2 tt_2 tk_2 tn_2 (by decide) hlink rfl rfl rfl (Nat.le_of_ble_eq_true rfl) rfl (tpn_1 ob σ x) hd hn kk
theorem tpn_2 (ob : Nat → Nat) (σ : gx_S) (x : Int32) : ∀ q, q < 55 → q ≠ 2 → tc_O ob (gx_si σ 2 x) q = tc_O ob σ q := by
  intro q _ hq
  by_cases h0 : q = 0
  · subst h0; rfl
  by_cases h1 : q = 1
  · subst h1; rfl
  by_cases h2 : q = 2
  · exact absurd h2 hq
  by_cases h3 : q = 3
  · subst h3; rfl
  by_cases h4 : q = 4
  · subst h4; rfl
  by_cases h5 : q = 5
  · subst h5; rfl
  by_cases h6 : q = 6
  · subst h6; rfl
  by_cases h7 : q = 7
  · subst h7; rfl
  unfold tc_O
  rw [if_neg h0, if_neg h1, if_neg h2, if_neg h3, if_neg h4, if_neg h5, if_neg h6, if_neg h7, if_neg h0, if_neg h1, if_neg h2, if_neg h3, if_neg h4, if_neg h5, if_neg h6, if_neg h7]
theorem tp_2 (hX : gx_K (tc_V D ob cA) X cc own nL fr lo rt) {idx : Nat} {x : Int32} {kf : gx_S → gx_R} (n : Nat) (hlink : Cond.fieldLink own idx "TypeLoom$Pushed" "fields" "I" ∈ gx_T) (hd : decode cc pc = .ok (.putfield idx, 3)) (hn : pc + 3 = n) (kk : ∀ σ', gx_G (tc_V D ob cA) X (kf σ') σ' n lv st) : gx_G (tc_V D ob cA) X (gx_sb (gx_si σ 2 x) kf) σ pc lv (.int x :: .ref (ob 2) :: st) := gf_put (u := tc_u ob cA) hX 2 3 2 n (show 2 < 55 by decide) rfl ti_2 tt_2 tk_2 tn_2 (by decide) hlink rfl rfl rfl (Nat.le_of_ble_eq_true rfl) rfl (tpn_2 ob σ x) hd hn kk
theorem tpn_3 (ob : Nat → Nat) (σ : gx_S) (x : Int32) : ∀ q, q < 55 → q ≠ 3 → tc_O ob (gx_si σ 3 x) q = tc_O ob σ q := by
  intro q _ hq
  by_cases h0 : q = 0
  · subst h0; rfl
  by_cases h1 : q = 1
  · subst h1; rfl
  by_cases h2 : q = 2
  · subst h2; rfl
  by_cases h3 : q = 3
  · exact absurd h3 hq
  by_cases h4 : q = 4
  · subst h4; rfl
  by_cases h5 : q = 5
  · subst h5; rfl
  by_cases h6 : q = 6
  · subst h6; rfl
  by_cases h7 : q = 7
  · subst h7; rfl
  unfold tc_O
  rw [if_neg h0, if_neg h1, if_neg h2, if_neg h3, if_neg h4, if_neg h5, if_neg h6, if_neg h7, if_neg h0, if_neg h1, if_neg h2, if_neg h3, if_neg h4, if_neg h5, if_neg h6, if_neg h7]
theorem tp_3 (hX : gx_K (tc_V D ob cA) X cc own nL fr lo rt) {idx : Nat} {x : Int32} {kf : gx_S → gx_R} (n : Nat) (hlink : Cond.fieldLink own idx "TypeLoom$Web" "nodes" "I" ∈ gx_T) (hd : decode cc pc = .ok (.putfield idx, 3)) (hn : pc + 3 = n) (kk : ∀ σ', gx_G (tc_V D ob cA) X (kf σ') σ' n lv st) : gx_G (tc_V D ob cA) X (gx_sb (gx_si σ 3 x) kf) σ pc lv (.int x :: .ref (ob 3) :: st) := gf_put (u := tc_u ob cA) hX 3 12 3 n (show 3 < 55 by decide) rfl ti_3 tt_3 tk_3 tn_3 (by decide) hlink rfl rfl rfl (Nat.le_of_ble_eq_true rfl) rfl (tpn_3 ob σ x) hd hn kk
theorem tpn_4 (ob : Nat → Nat) (σ : gx_S) (x : Int32) : ∀ q, q < 55 → q ≠ 3 → tc_O ob (gx_si σ 4 x) q = tc_O ob σ q := by
  intro q _ hq
  by_cases h0 : q = 0
  · subst h0; rfl
  by_cases h1 : q = 1
  · subst h1; rfl
  by_cases h2 : q = 2
  · subst h2; rfl
  by_cases h3 : q = 3
  · exact absurd h3 hq
  by_cases h4 : q = 4
  · subst h4; rfl
  by_cases h5 : q = 5
  · subst h5; rfl
  by_cases h6 : q = 6
  · subst h6; rfl
  by_cases h7 : q = 7
  · subst h7; rfl
  unfold tc_O
  rw [if_neg h0, if_neg h1, if_neg h2, if_neg h3, if_neg h4, if_neg h5, if_neg h6, if_neg h7, if_neg h0, if_neg h1, if_neg h2, if_neg h3, if_neg h4, if_neg h5, if_neg h6, if_neg h7]
theorem tp_4 (hX : gx_K (tc_V D ob cA) X cc own nL fr lo rt) {idx : Nat} {x : Int32} {kf : gx_S → gx_R} (n : Nat) (hlink : Cond.fieldLink own idx "TypeLoom$Web" "slots" "I" ∈ gx_T) (hd : decode cc pc = .ok (.putfield idx, 3)) (hn : pc + 3 = n) (kk : ∀ σ', gx_G (tc_V D ob cA) X (kf σ') σ' n lv st) : gx_G (tc_V D ob cA) X (gx_sb (gx_si σ 4 x) kf) σ pc lv (.int x :: .ref (ob 3) :: st) := gf_put (u := tc_u ob cA) hX 3 13 4 n (show 3 < 55 by decide) rfl ti_3 tt_3 tk_3 tn_3 (by decide) hlink rfl rfl rfl (Nat.le_of_ble_eq_true rfl) rfl (tpn_4 ob σ x) hd hn kk
theorem tpn_5 (ob : Nat → Nat) (σ : gx_S) (x : Int32) : ∀ q, q < 55 → q ≠ 3 → tc_O ob (gx_si σ 5 x) q = tc_O ob σ q := by
  intro q _ hq
  by_cases h0 : q = 0
  · subst h0; rfl
  by_cases h1 : q = 1
  · subst h1; rfl
  by_cases h2 : q = 2
  · subst h2; rfl
  by_cases h3 : q = 3
  · exact absurd h3 hq
  by_cases h4 : q = 4
  · subst h4; rfl
  by_cases h5 : q = 5
  · subst h5; rfl
  by_cases h6 : q = 6
  · subst h6; rfl
  by_cases h7 : q = 7
  · subst h7; rfl
  unfold tc_O
  rw [if_neg h0, if_neg h1, if_neg h2, if_neg h3, if_neg h4, if_neg h5, if_neg h6, if_neg h7, if_neg h0, if_neg h1, if_neg h2, if_neg h3, if_neg h4, if_neg h5, if_neg h6, if_neg h7]
theorem tp_5 (hX : gx_K (tc_V D ob cA) X cc own nL fr lo rt) {idx : Nat} {x : Int32} {kf : gx_S → gx_R} (n : Nat) (hlink : Cond.fieldLink own idx "TypeLoom$Web" "types" "I" ∈ gx_T) (hd : decode cc pc = .ok (.putfield idx, 3)) (hn : pc + 3 = n) (kk : ∀ σ', gx_G (tc_V D ob cA) X (kf σ') σ' n lv st) : gx_G (tc_V D ob cA) X (gx_sb (gx_si σ 5 x) kf) σ pc lv (.int x :: .ref (ob 3) :: st) := gf_put (u := tc_u ob cA) hX 3 14 5 n (show 3 < 55 by decide) rfl ti_3 tt_3 tk_3 tn_3 (by decide) hlink rfl rfl rfl (Nat.le_of_ble_eq_true rfl) rfl (tpn_5 ob σ x) hd hn kk
theorem tpn_6 (ob : Nat → Nat) (σ : gx_S) (x : Int32) : ∀ q, q < 55 → q ≠ 3 → tc_O ob (gx_si σ 6 x) q = tc_O ob σ q := by
  intro q _ hq
  by_cases h0 : q = 0
  · subst h0; rfl
  by_cases h1 : q = 1
  · subst h1; rfl
  by_cases h2 : q = 2
  · subst h2; rfl
  by_cases h3 : q = 3
  · exact absurd h3 hq
  by_cases h4 : q = 4
  · subst h4; rfl
  by_cases h5 : q = 5
  · subst h5; rfl
  by_cases h6 : q = 6
  · subst h6; rfl
  by_cases h7 : q = 7
  · subst h7; rfl
  unfold tc_O
  rw [if_neg h0, if_neg h1, if_neg h2, if_neg h3, if_neg h4, if_neg h5, if_neg h6, if_neg h7, if_neg h0, if_neg h1, if_neg h2, if_neg h3, if_neg h4, if_neg h5, if_neg h6, if_neg h7]
theorem tp_6 (hX : gx_K (tc_V D ob cA) X cc own nL fr lo rt) {idx : Nat} {x : Int32} {kf : gx_S → gx_R} (n : Nat) (hlink : Cond.fieldLink own idx "TypeLoom$Web" "partsMade" "I" ∈ gx_T) (hd : decode cc pc = .ok (.putfield idx, 3)) (hn : pc + 3 = n) (kk : ∀ σ', gx_G (tc_V D ob cA) X (kf σ') σ' n lv st) : gx_G (tc_V D ob cA) X (gx_sb (gx_si σ 6 x) kf) σ pc lv (.int x :: .ref (ob 3) :: st) := gf_put (u := tc_u ob cA) hX 3 15 6 n (show 3 < 55 by decide) rfl ti_3 tt_3 tk_3 tn_3 (by decide) hlink rfl rfl rfl (Nat.le_of_ble_eq_true rfl) rfl (tpn_6 ob σ x) hd hn kk
theorem tpn_7 (ob : Nat → Nat) (σ : gx_S) (x : Int32) : ∀ q, q < 55 → q ≠ 3 → tc_O ob (gx_si σ 7 x) q = tc_O ob σ q := by
  intro q _ hq
  by_cases h0 : q = 0
  · subst h0; rfl
  by_cases h1 : q = 1
  · subst h1; rfl
  by_cases h2 : q = 2
  · subst h2; rfl
  by_cases h3 : q = 3
  · exact absurd h3 hq
  by_cases h4 : q = 4
  · subst h4; rfl
  by_cases h5 : q = 5
  · subst h5; rfl
  by_cases h6 : q = 6
  · subst h6; rfl
  by_cases h7 : q = 7
  · subst h7; rfl
  unfold tc_O
  rw [if_neg h0, if_neg h1, if_neg h2, if_neg h3, if_neg h4, if_neg h5, if_neg h6, if_neg h7, if_neg h0, if_neg h1, if_neg h2, if_neg h3, if_neg h4, if_neg h5, if_neg h6, if_neg h7]
theorem tp_7 (hX : gx_K (tc_V D ob cA) X cc own nL fr lo rt) {idx : Nat} {x : Int32} {kf : gx_S → gx_R} (n : Nat) (hlink : Cond.fieldLink own idx "TypeLoom$Web" "rows" "I" ∈ gx_T) (hd : decode cc pc = .ok (.putfield idx, 3)) (hn : pc + 3 = n) (kk : ∀ σ', gx_G (tc_V D ob cA) X (kf σ') σ' n lv st) : gx_G (tc_V D ob cA) X (gx_sb (gx_si σ 7 x) kf) σ pc lv (.int x :: .ref (ob 3) :: st) := gf_put (u := tc_u ob cA) hX 3 16 7 n (show 3 < 55 by decide) rfl ti_3 tt_3 tk_3 tn_3 (by decide) hlink rfl rfl rfl (Nat.le_of_ble_eq_true rfl) rfl (tpn_7 ob σ x) hd hn kk
theorem tpn_8 (ob : Nat → Nat) (σ : gx_S) (x : Int32) : ∀ q, q < 55 → q ≠ 4 → tc_O ob (gx_si σ 8 x) q = tc_O ob σ q := by
  intro q _ hq
  by_cases h0 : q = 0
  · subst h0; rfl
  by_cases h1 : q = 1
  · subst h1; rfl
  by_cases h2 : q = 2
  · subst h2; rfl
  by_cases h3 : q = 3
  · subst h3; rfl
  by_cases h4 : q = 4
  · exact absurd h4 hq
  by_cases h5 : q = 5
  · subst h5; rfl
  by_cases h6 : q = 6
  · subst h6; rfl
  by_cases h7 : q = 7
  · subst h7; rfl
  unfold tc_O
  rw [if_neg h0, if_neg h1, if_neg h2, if_neg h3, if_neg h4, if_neg h5, if_neg h6, if_neg h7, if_neg h0, if_neg h1, if_neg h2, if_neg h3, if_neg h4, if_neg h5, if_neg h6, if_neg h7]
theorem tp_8 (hX : gx_K (tc_V D ob cA) X cc own nL fr lo rt) {idx : Nat} {x : Int32} {kf : gx_S → gx_R} (n : Nat) (hlink : Cond.fieldLink own idx "TypeLoom$Walk" "size" "I" ∈ gx_T) (hd : decode cc pc = .ok (.putfield idx, 3)) (hn : pc + 3 = n) (kk : ∀ σ', gx_G (tc_V D ob cA) X (kf σ') σ' n lv st) : gx_G (tc_V D ob cA) X (gx_sb (gx_si σ 8 x) kf) σ pc lv (.int x :: .ref (ob 4) :: st) := gf_put (u := tc_u ob cA) hX 4 6 8 n (show 4 < 55 by decide) rfl ti_4 tt_4 tk_4 tn_4 (by decide) hlink rfl rfl rfl (Nat.le_of_ble_eq_true rfl) rfl (tpn_8 ob σ x) hd hn kk
theorem tpn_9 (ob : Nat → Nat) (σ : gx_S) (x : Int32) : ∀ q, q < 55 → q ≠ 4 → tc_O ob (gx_si σ 9 x) q = tc_O ob σ q := by
  intro q _ hq
  by_cases h0 : q = 0
  · subst h0; rfl
  by_cases h1 : q = 1
  · subst h1; rfl
  by_cases h2 : q = 2
  · subst h2; rfl
  by_cases h3 : q = 3
  · subst h3; rfl
  by_cases h4 : q = 4
  · exact absurd h4 hq
  by_cases h5 : q = 5
  · subst h5; rfl
  by_cases h6 : q = 6
  · subst h6; rfl
  by_cases h7 : q = 7
  · subst h7; rfl
  unfold tc_O
  rw [if_neg h0, if_neg h1, if_neg h2, if_neg h3, if_neg h4, if_neg h5, if_neg h6, if_neg h7, if_neg h0, if_neg h1, if_neg h2, if_neg h3, if_neg h4, if_neg h5, if_neg h6, if_neg h7]
theorem tp_9 (hX : gx_K (tc_V D ob cA) X cc own nL fr lo rt) {idx : Nat} {x : Int32} {kf : gx_S → gx_R} (n : Nat) (hlink : Cond.fieldLink own idx "TypeLoom$Walk" "entered" "I" ∈ gx_T) (hd : decode cc pc = .ok (.putfield idx, 3)) (hn : pc + 3 = n) (kk : ∀ σ', gx_G (tc_V D ob cA) X (kf σ') σ' n lv st) : gx_G (tc_V D ob cA) X (gx_sb (gx_si σ 9 x) kf) σ pc lv (.int x :: .ref (ob 4) :: st) := gf_put (u := tc_u ob cA) hX 4 7 9 n (show 4 < 55 by decide) rfl ti_4 tt_4 tk_4 tn_4 (by decide) hlink rfl rfl rfl (Nat.le_of_ble_eq_true rfl) rfl (tpn_9 ob σ x) hd hn kk
theorem tpn_10 (ob : Nat → Nat) (σ : gx_S) (x : Int32) : ∀ q, q < 55 → q ≠ 4 → tc_O ob (gx_si σ 10 x) q = tc_O ob σ q := by
  intro q _ hq
  by_cases h0 : q = 0
  · subst h0; rfl
  by_cases h1 : q = 1
  · subst h1; rfl
  by_cases h2 : q = 2
  · subst h2; rfl
  by_cases h3 : q = 3
  · subst h3; rfl
  by_cases h4 : q = 4
  · exact absurd h4 hq
  by_cases h5 : q = 5
  · subst h5; rfl
  by_cases h6 : q = 6
  · subst h6; rfl
  by_cases h7 : q = 7
  · subst h7; rfl
  unfold tc_O
  rw [if_neg h0, if_neg h1, if_neg h2, if_neg h3, if_neg h4, if_neg h5, if_neg h6, if_neg h7, if_neg h0, if_neg h1, if_neg h2, if_neg h3, if_neg h4, if_neg h5, if_neg h6, if_neg h7]
theorem tp_10 (hX : gx_K (tc_V D ob cA) X cc own nL fr lo rt) {idx : Nat} {x : Int32} {kf : gx_S → gx_R} (n : Nat) (hlink : Cond.fieldLink own idx "TypeLoom$Walk" "left" "I" ∈ gx_T) (hd : decode cc pc = .ok (.putfield idx, 3)) (hn : pc + 3 = n) (kk : ∀ σ', gx_G (tc_V D ob cA) X (kf σ') σ' n lv st) : gx_G (tc_V D ob cA) X (gx_sb (gx_si σ 10 x) kf) σ pc lv (.int x :: .ref (ob 4) :: st) := gf_put (u := tc_u ob cA) hX 4 8 10 n (show 4 < 55 by decide) rfl ti_4 tt_4 tk_4 tn_4 (by decide) hlink rfl rfl rfl (Nat.le_of_ble_eq_true rfl) rfl (tpn_10 ob σ x) hd hn kk
theorem tpn_11 (ob : Nat → Nat) (σ : gx_S) (x : Int32) : ∀ q, q < 55 → q ≠ 5 → tc_O ob (gx_si σ 11 x) q = tc_O ob σ q := by
  intro q _ hq
  by_cases h0 : q = 0
  · subst h0; rfl
  by_cases h1 : q = 1
  · subst h1; rfl
  by_cases h2 : q = 2
  · subst h2; rfl
  by_cases h3 : q = 3
  · subst h3; rfl
  by_cases h4 : q = 4
  · subst h4; rfl
  by_cases h5 : q = 5
  · exact absurd h5 hq
  by_cases h6 : q = 6
  · subst h6; rfl
  by_cases h7 : q = 7
  · subst h7; rfl
  unfold tc_O
  rw [if_neg h0, if_neg h1, if_neg h2, if_neg h3, if_neg h4, if_neg h5, if_neg h6, if_neg h7, if_neg h0, if_neg h1, if_neg h2, if_neg h3, if_neg h4, if_neg h5, if_neg h6, if_neg h7]
theorem tp_11 (hX : gx_K (tc_V D ob cA) X cc own nL fr lo rt) {idx : Nat} {x : Int32} {kf : gx_S → gx_R} (n : Nat) (hlink : Cond.fieldLink own idx "TypeLoom$Shapes" "size" "I" ∈ gx_T) (hd : decode cc pc = .ok (.putfield idx, 3)) (hn : pc + 3 = n) (kk : ∀ σ', gx_G (tc_V D ob cA) X (kf σ') σ' n lv st) : gx_G (tc_V D ob cA) X (gx_sb (gx_si σ 11 x) kf) σ pc lv (.int x :: .ref (ob 5) :: st) := gf_put (u := tc_u ob cA) hX 5 6 11 n (show 5 < 55 by decide) rfl ti_5 tt_5 tk_5 tn_5 (by decide) hlink rfl rfl rfl (Nat.le_of_ble_eq_true rfl) rfl (tpn_11 ob σ x) hd hn kk
theorem tpn_12 (ob : Nat → Nat) (σ : gx_S) (x : Int32) : ∀ q, q < 55 → q ≠ 6 → tc_O ob (gx_si σ 12 x) q = tc_O ob σ q := by
  intro q _ hq
  by_cases h0 : q = 0
  · subst h0; rfl
  by_cases h1 : q = 1
  · subst h1; rfl
  by_cases h2 : q = 2
  · subst h2; rfl
  by_cases h3 : q = 3
  · subst h3; rfl
  by_cases h4 : q = 4
  · subst h4; rfl
  by_cases h5 : q = 5
  · subst h5; rfl
  by_cases h6 : q = 6
  · exact absurd h6 hq
  by_cases h7 : q = 7
  · subst h7; rfl
  unfold tc_O
  rw [if_neg h0, if_neg h1, if_neg h2, if_neg h3, if_neg h4, if_neg h5, if_neg h6, if_neg h7, if_neg h0, if_neg h1, if_neg h2, if_neg h3, if_neg h4, if_neg h5, if_neg h6, if_neg h7]
theorem tp_12 (hX : gx_K (tc_V D ob cA) X cc own nL fr lo rt) {idx : Nat} {x : Int32} {kf : gx_S → gx_R} (n : Nat) (hlink : Cond.fieldLink own idx "TypeLoom$Unifier" "depth" "I" ∈ gx_T) (hd : decode cc pc = .ok (.putfield idx, 3)) (hn : pc + 3 = n) (kk : ∀ σ', gx_G (tc_V D ob cA) X (kf σ') σ' n lv st) : gx_G (tc_V D ob cA) X (gx_sb (gx_si σ 12 x) kf) σ pc lv (.int x :: .ref (ob 6) :: st) := gf_put (u := tc_u ob cA) hX 6 6 12 n (show 6 < 55 by decide) rfl ti_6 tt_6 tk_6 tn_6 (by decide) hlink rfl rfl rfl (Nat.le_of_ble_eq_true rfl) rfl (tpn_12 ob σ x) hd hn kk
theorem tpn_13 (ob : Nat → Nat) (σ : gx_S) (x : Int32) : ∀ q, q < 55 → q ≠ 6 → tc_O ob (gx_si σ 13 x) q = tc_O ob σ q := by
  intro q _ hq
  by_cases h0 : q = 0
  · subst h0; rfl
  by_cases h1 : q = 1
  · subst h1; rfl
  by_cases h2 : q = 2
  · subst h2; rfl
  by_cases h3 : q = 3
  · subst h3; rfl
  by_cases h4 : q = 4
  · subst h4; rfl
  by_cases h5 : q = 5
  · subst h5; rfl
  by_cases h6 : q = 6
  · exact absurd h6 hq
  by_cases h7 : q = 7
  · subst h7; rfl
  unfold tc_O
  rw [if_neg h0, if_neg h1, if_neg h2, if_neg h3, if_neg h4, if_neg h5, if_neg h6, if_neg h7, if_neg h0, if_neg h1, if_neg h2, if_neg h3, if_neg h4, if_neg h5, if_neg h6, if_neg h7]
theorem tp_13 (hX : gx_K (tc_V D ob cA) X cc own nL fr lo rt) {idx : Nat} {x : Int32} {kf : gx_S → gx_R} (n : Nat) (hlink : Cond.fieldLink own idx "TypeLoom$Unifier" "joins" "I" ∈ gx_T) (hd : decode cc pc = .ok (.putfield idx, 3)) (hn : pc + 3 = n) (kk : ∀ σ', gx_G (tc_V D ob cA) X (kf σ') σ' n lv st) : gx_G (tc_V D ob cA) X (gx_sb (gx_si σ 13 x) kf) σ pc lv (.int x :: .ref (ob 6) :: st) := gf_put (u := tc_u ob cA) hX 6 8 13 n (show 6 < 55 by decide) rfl ti_6 tt_6 tk_6 tn_6 (by decide) hlink rfl rfl rfl (Nat.le_of_ble_eq_true rfl) rfl (tpn_13 ob σ x) hd hn kk
theorem tpn_14 (ob : Nat → Nat) (σ : gx_S) (x : Int32) : ∀ q, q < 55 → q ≠ 6 → tc_O ob (gx_si σ 14 x) q = tc_O ob σ q := by
  intro q _ hq
  by_cases h0 : q = 0
  · subst h0; rfl
  by_cases h1 : q = 1
  · subst h1; rfl
  by_cases h2 : q = 2
  · subst h2; rfl
  by_cases h3 : q = 3
  · subst h3; rfl
  by_cases h4 : q = 4
  · subst h4; rfl
  by_cases h5 : q = 5
  · subst h5; rfl
  by_cases h6 : q = 6
  · exact absurd h6 hq
  by_cases h7 : q = 7
  · subst h7; rfl
  unfold tc_O
  rw [if_neg h0, if_neg h1, if_neg h2, if_neg h3, if_neg h4, if_neg h5, if_neg h6, if_neg h7, if_neg h0, if_neg h1, if_neg h2, if_neg h3, if_neg h4, if_neg h5, if_neg h6, if_neg h7]
theorem tp_14 (hX : gx_K (tc_V D ob cA) X cc own nL fr lo rt) {idx : Nat} {x : Int32} {kf : gx_S → gx_R} (n : Nat) (hlink : Cond.fieldLink own idx "TypeLoom$Unifier" "bounds" "I" ∈ gx_T) (hd : decode cc pc = .ok (.putfield idx, 3)) (hn : pc + 3 = n) (kk : ∀ σ', gx_G (tc_V D ob cA) X (kf σ') σ' n lv st) : gx_G (tc_V D ob cA) X (gx_sb (gx_si σ 14 x) kf) σ pc lv (.int x :: .ref (ob 6) :: st) := gf_put (u := tc_u ob cA) hX 6 10 14 n (show 6 < 55 by decide) rfl ti_6 tt_6 tk_6 tn_6 (by decide) hlink rfl rfl rfl (Nat.le_of_ble_eq_true rfl) rfl (tpn_14 ob σ x) hd hn kk
theorem tpn_15 (ob : Nat → Nat) (σ : gx_S) (x : Int32) : ∀ q, q < 55 → q ≠ 6 → tc_O ob (gx_si σ 15 x) q = tc_O ob σ q := by
  intro q _ hq
  by_cases h0 : q = 0
  · subst h0; rfl
  by_cases h1 : q = 1
  · subst h1; rfl
  by_cases h2 : q = 2
  · subst h2; rfl
  by_cases h3 : q = 3
  · subst h3; rfl
  by_cases h4 : q = 4
  · subst h4; rfl
  by_cases h5 : q = 5
  · subst h5; rfl
  by_cases h6 : q = 6
  · exact absurd h6 hq
  by_cases h7 : q = 7
  · subst h7; rfl
  unfold tc_O
  rw [if_neg h0, if_neg h1, if_neg h2, if_neg h3, if_neg h4, if_neg h5, if_neg h6, if_neg h7, if_neg h0, if_neg h1, if_neg h2, if_neg h3, if_neg h4, if_neg h5, if_neg h6, if_neg h7]
theorem tp_15 (hX : gx_K (tc_V D ob cA) X cc own nL fr lo rt) {idx : Nat} {x : Int32} {kf : gx_S → gx_R} (n : Nat) (hlink : Cond.fieldLink own idx "TypeLoom$Unifier" "changes" "I" ∈ gx_T) (hd : decode cc pc = .ok (.putfield idx, 3)) (hn : pc + 3 = n) (kk : ∀ σ', gx_G (tc_V D ob cA) X (kf σ') σ' n lv st) : gx_G (tc_V D ob cA) X (gx_sb (gx_si σ 15 x) kf) σ pc lv (.int x :: .ref (ob 6) :: st) := gf_put (u := tc_u ob cA) hX 6 15 15 n (show 6 < 55 by decide) rfl ti_6 tt_6 tk_6 tn_6 (by decide) hlink rfl rfl rfl (Nat.le_of_ble_eq_true rfl) rfl (tpn_15 ob σ x) hd hn kk
theorem tpn_16 (ob : Nat → Nat) (σ : gx_S) (x : Int32) : ∀ q, q < 55 → q ≠ 6 → tc_O ob (gx_si σ 16 x) q = tc_O ob σ q := by
  intro q _ hq
  by_cases h0 : q = 0
  · subst h0; rfl
  by_cases h1 : q = 1
  · subst h1; rfl
  by_cases h2 : q = 2
  · subst h2; rfl
  by_cases h3 : q = 3
  · subst h3; rfl
  by_cases h4 : q = 4
  · subst h4; rfl
  by_cases h5 : q = 5
  · subst h5; rfl
  by_cases h6 : q = 6
  · exact absurd h6 hq
  by_cases h7 : q = 7
  · subst h7; rfl
  unfold tc_O
  rw [if_neg h0, if_neg h1, if_neg h2, if_neg h3, if_neg h4, if_neg h5, if_neg h6, if_neg h7, if_neg h0, if_neg h1, if_neg h2, if_neg h3, if_neg h4, if_neg h5, if_neg h6, if_neg h7]
theorem tp_16 (hX : gx_K (tc_V D ob cA) X cc own nL fr lo rt) {idx : Nat} {x : Int32} {kf : gx_S → gx_R} (n : Nat) (hlink : Cond.fieldLink own idx "TypeLoom$Unifier" "turn" "I" ∈ gx_T) (hd : decode cc pc = .ok (.putfield idx, 3)) (hn : pc + 3 = n) (kk : ∀ σ', gx_G (tc_V D ob cA) X (kf σ') σ' n lv st) : gx_G (tc_V D ob cA) X (gx_sb (gx_si σ 16 x) kf) σ pc lv (.int x :: .ref (ob 6) :: st) := gf_put (u := tc_u ob cA) hX 6 17 16 n (show 6 < 55 by decide) rfl ti_6 tt_6 tk_6 tn_6 (by decide) hlink rfl rfl rfl (Nat.le_of_ble_eq_true rfl) rfl (tpn_16 ob σ x) hd hn kk
theorem tpn_17 (ob : Nat → Nat) (σ : gx_S) (x : Int32) : ∀ q, q < 55 → q ≠ 7 → tc_O ob (gx_si σ 17 x) q = tc_O ob σ q := by
  intro q _ hq
  by_cases h0 : q = 0
  · subst h0; rfl
  by_cases h1 : q = 1
  · subst h1; rfl
  by_cases h2 : q = 2
  · subst h2; rfl
  by_cases h3 : q = 3
  · subst h3; rfl
  by_cases h4 : q = 4
  · subst h4; rfl
  by_cases h5 : q = 5
  · subst h5; rfl
  by_cases h6 : q = 6
  · subst h6; rfl
  by_cases h7 : q = 7
  · exact absurd h7 hq
  unfold tc_O
  rw [if_neg h0, if_neg h1, if_neg h2, if_neg h3, if_neg h4, if_neg h5, if_neg h6, if_neg h7, if_neg h0, if_neg h1, if_neg h2, if_neg h3, if_neg h4, if_neg h5, if_neg h6, if_neg h7]
theorem tp_17 (hX : gx_K (tc_V D ob cA) X cc own nL fr lo rt) {idx : Nat} {x : Int32} {kf : gx_S → gx_R} (n : Nat) (hlink : Cond.fieldLink own idx "TypeLoom$Schemes" "size" "I" ∈ gx_T) (hd : decode cc pc = .ok (.putfield idx, 3)) (hn : pc + 3 = n) (kk : ∀ σ', gx_G (tc_V D ob cA) X (kf σ') σ' n lv st) : gx_G (tc_V D ob cA) X (gx_sb (gx_si σ 17 x) kf) σ pc lv (.int x :: .ref (ob 7) :: st) := gf_put (u := tc_u ob cA) hX 7 15 17 n (show 7 < 55 by decide) rfl ti_7 tt_7 tk_7 tn_7 (by decide) hlink rfl rfl rfl (Nat.le_of_ble_eq_true rfl) rfl (tpn_17 ob σ x) hd hn kk
theorem tpn_18 (ob : Nat → Nat) (σ : gx_S) (x : Int32) : ∀ q, q < 55 → q ≠ 7 → tc_O ob (gx_si σ 18 x) q = tc_O ob σ q := by
  intro q _ hq
  by_cases h0 : q = 0
  · subst h0; rfl
  by_cases h1 : q = 1
  · subst h1; rfl
  by_cases h2 : q = 2
  · subst h2; rfl
  by_cases h3 : q = 3
  · subst h3; rfl
  by_cases h4 : q = 4
  · subst h4; rfl
  by_cases h5 : q = 5
  · subst h5; rfl
  by_cases h6 : q = 6
  · subst h6; rfl
  by_cases h7 : q = 7
  · exact absurd h7 hq
  unfold tc_O
  rw [if_neg h0, if_neg h1, if_neg h2, if_neg h3, if_neg h4, if_neg h5, if_neg h6, if_neg h7, if_neg h0, if_neg h1, if_neg h2, if_neg h3, if_neg h4, if_neg h5, if_neg h6, if_neg h7]
theorem tp_18 (hX : gx_K (tc_V D ob cA) X cc own nL fr lo rt) {idx : Nat} {x : Int32} {kf : gx_S → gx_R} (n : Nat) (hlink : Cond.fieldLink own idx "TypeLoom$Schemes" "types" "I" ∈ gx_T) (hd : decode cc pc = .ok (.putfield idx, 3)) (hn : pc + 3 = n) (kk : ∀ σ', gx_G (tc_V D ob cA) X (kf σ') σ' n lv st) : gx_G (tc_V D ob cA) X (gx_sb (gx_si σ 18 x) kf) σ pc lv (.int x :: .ref (ob 7) :: st) := gf_put (u := tc_u ob cA) hX 7 16 18 n (show 7 < 55 by decide) rfl ti_7 tt_7 tk_7 tn_7 (by decide) hlink rfl rfl rfl (Nat.le_of_ble_eq_true rfl) rfl (tpn_18 ob σ x) hd hn kk
theorem tpn_19 (ob : Nat → Nat) (σ : gx_S) (x : Int32) : ∀ q, q < 55 → q ≠ 7 → tc_O ob (gx_si σ 19 x) q = tc_O ob σ q := by
  intro q _ hq
  by_cases h0 : q = 0
  · subst h0; rfl
  by_cases h1 : q = 1
  · subst h1; rfl
  by_cases h2 : q = 2
  · subst h2; rfl
  by_cases h3 : q = 3
  · subst h3; rfl
  by_cases h4 : q = 4
  · subst h4; rfl
  by_cases h5 : q = 5
  · subst h5; rfl
  by_cases h6 : q = 6
  · subst h6; rfl
  by_cases h7 : q = 7
  · exact absurd h7 hq
  unfold tc_O
  rw [if_neg h0, if_neg h1, if_neg h2, if_neg h3, if_neg h4, if_neg h5, if_neg h6, if_neg h7, if_neg h0, if_neg h1, if_neg h2, if_neg h3, if_neg h4, if_neg h5, if_neg h6, if_neg h7]
theorem tp_19 (hX : gx_K (tc_V D ob cA) X cc own nL fr lo rt) {idx : Nat} {x : Int32} {kf : gx_S → gx_R} (n : Nat) (hlink : Cond.fieldLink own idx "TypeLoom$Schemes" "parts" "I" ∈ gx_T) (hd : decode cc pc = .ok (.putfield idx, 3)) (hn : pc + 3 = n) (kk : ∀ σ', gx_G (tc_V D ob cA) X (kf σ') σ' n lv st) : gx_G (tc_V D ob cA) X (gx_sb (gx_si σ 19 x) kf) σ pc lv (.int x :: .ref (ob 7) :: st) := gf_put (u := tc_u ob cA) hX 7 17 19 n (show 7 < 55 by decide) rfl ti_7 tt_7 tk_7 tn_7 (by decide) hlink rfl rfl rfl (Nat.le_of_ble_eq_true rfl) rfl (tpn_19 ob σ x) hd hn kk
theorem tpn_20 (ob : Nat → Nat) (σ : gx_S) (x : Int32) : ∀ q, q < 55 → q ≠ 0 → tc_O ob (gx_si σ 20 x) q = tc_O ob σ q := by
  intro q _ hq
  by_cases h0 : q = 0
  · exact absurd h0 hq
  by_cases h1 : q = 1
  · subst h1; rfl
  by_cases h2 : q = 2
  · subst h2; rfl
  by_cases h3 : q = 3
  · subst h3; rfl
  by_cases h4 : q = 4
  · subst h4; rfl
  by_cases h5 : q = 5
  · subst h5; rfl
  by_cases h6 : q = 6
  · subst h6; rfl
  by_cases h7 : q = 7
  · subst h7; rfl
  unfold tc_O
  rw [if_neg h0, if_neg h1, if_neg h2, if_neg h3, if_neg h4, if_neg h5, if_neg h6, if_neg h7, if_neg h0, if_neg h1, if_neg h2, if_neg h3, if_neg h4, if_neg h5, if_neg h6, if_neg h7]
theorem tp_20 (hX : gx_K (tc_V D ob cA) X cc own nL fr lo rt) {idx : Nat} {x : Int32} {kf : gx_S → gx_R} (n : Nat) (hlink : Cond.fieldLink own idx "TypeLoom" "present" "I" ∈ gx_T) (hd : decode cc pc = .ok (.putfield idx, 3)) (hn : pc + 3 = n) (kk : ∀ σ', gx_G (tc_V D ob cA) X (kf σ') σ' n lv st) : gx_G (tc_V D ob cA) X (gx_sb (gx_si σ 20 x) kf) σ pc lv (.int x :: .ref (ob 0) :: st) := gf_put (u := tc_u ob cA) hX 0 7 20 n (show 0 < 55 by decide) rfl ti_0 tt_0 tk_0 tn_0 (by decide) hlink rfl rfl rfl (Nat.le_of_ble_eq_true rfl) rfl (tpn_20 ob σ x) hd hn kk
end TC
