/-! A UNIVERSE of fixed objects and fixed arrays of small numbers: objects 0 .. nO - 1 at ob k, arrays at ob (nO + j), of the type ty j, the length ln j; a state: int fields by number, arrays' contents by number -/
abbrev gf_U : Type := (Nat × Nat) × (gx_S → Nat → Nat × List Value) × (Nat → Nat) × (Nat → ClassId) × (Nat → Nat)
def gf_w (u : gf_U) (ob : Nat → Nat) (σ : gx_S) : va_W :=
  (List.range u.1.1).map (fun k => (ob k, Sum.inr (u.2.1 σ k))) ++ (List.range u.1.2).map (fun j => (ob (u.1.1 + j), Sum.inl (u.2.2.2.1 j, u.2.2.2.2 j, Sum.inl (σ.2.1 j))))
def gf_V (D : va_G) (cl : List vw_C) (tys : List (ClassId × FieldType)) (u : gf_U) (ob : Nat → Nat) : gx_V := ((D, cl, tys), (fun _ σ => gf_w u ob σ), (fun _ => True), (fun _ => 0), (fun _ => 0))
def gx_si (σ : gx_S) (k : Nat) (v : Int32) : gx_S := (upd σ.1 k v, σ.2.1, σ.2.2)
def gx_sa (σ : gx_S) (j i : Nat) (v : Int32) : gx_S := (σ.1, (fun q => if q = j then upd (σ.2.1 j) i v else σ.2.1 q), σ.2.2)
theorem gf_wo {u : gf_U} {ob : Nat → Nat} {σ : gx_S} (k : Nat) (hk : k < u.1.1) : (gf_w u ob σ)[k]? = some (ob k, Sum.inr (u.2.1 σ k)) := by
  unfold gf_w
  rw [List.getElem?_append_left (by rw [List.length_map, List.length_range]; exact hk), List.getElem?_map, List.getElem?_range hk]
  rfl
theorem gf_wa {u : gf_U} {ob : Nat → Nat} {σ : gx_S} (j : Nat) (hj : j < u.1.2) : (gf_w u ob σ)[u.1.1 + j]? = some (ob (u.1.1 + j), Sum.inl (u.2.2.2.1 j, u.2.2.2.2 j, Sum.inl (σ.2.1 j))) := by
  unfold gf_w
  rw [List.getElem?_append_right (by rw [List.length_map, List.length_range]; omega), List.length_map, List.length_range, List.getElem?_map, show u.1.1 + j - u.1.1 = j by omega, List.getElem?_range hj]
  rfl
theorem gf_wlen {u : gf_U} {ob : Nat → Nat} {σ : gx_S} : (gf_w u ob σ).length = u.1.1 + u.1.2 := by
  unfold gf_w
  rw [List.length_append, List.length_map, List.length_map, List.length_range, List.length_range]
theorem gf_wext {u : gf_U} {ob : Nat → Nat} {σ : gx_S} {l : va_W} (hl : l.length = u.1.1 + u.1.2) (ho : ∀ k, k < u.1.1 → l[k]? = some (ob k, Sum.inr (u.2.1 σ k))) (ha : ∀ j, j < u.1.2 → l[u.1.1 + j]? = some (ob (u.1.1 + j), Sum.inl (u.2.2.2.1 j, u.2.2.2.2 j, Sum.inl (σ.2.1 j)))) : l = gf_w u ob σ := by
  apply List.ext_getElem?
  intro i
  by_cases h1 : i < u.1.1
  · rw [ho i h1, gf_wo i h1]
  · by_cases h2 : i < u.1.1 + u.1.2
    · have h3 : i = u.1.1 + (i - u.1.1) := by omega
      rw [h3, ha (i - u.1.1) (by omega), gf_wa (i - u.1.1) (by omega)]
    · rw [List.getElem?_eq_none (by omega), List.getElem?_eq_none (by rw [gf_wlen]; omega)]
theorem gf_setO {u : gf_U} {ob : Nat → Nat} {σ σ' : gx_S} {k : Nat} {e : Nat × List Value} (hk : k < u.1.1) (he : u.2.1 σ' k = e) (ho : ∀ q, q < u.1.1 → q ≠ k → u.2.1 σ' q = u.2.1 σ q) (ha : σ'.2.1 = σ.2.1) : (gf_w u ob σ).set k (ob k, Sum.inr e) = gf_w u ob σ' := by
  refine gf_wext (by rw [List.length_set, gf_wlen]) (fun q hq => ?_) (fun j hj => ?_)
  · by_cases h : k = q
    · subst h
      rw [List.getElem?_set_self (by rw [gf_wlen]; omega), he]
    · rw [List.getElem?_set_ne h, gf_wo q hq, ho q hq (fun e => h e.symm)]
  · rw [List.getElem?_set_ne (by omega), gf_wa j hj, ha]
theorem gf_setA {u : gf_U} {ob : Nat → Nat} {σ σ' : gx_S} {j : Nat} {f : Nat → Int32} (hj : j < u.1.2) (ho : ∀ q, q < u.1.1 → u.2.1 σ' q = u.2.1 σ q) (hf : σ'.2.1 j = f) (ha : ∀ q, q ≠ j → σ'.2.1 q = σ.2.1 q) : (gf_w u ob σ).set (u.1.1 + j) (ob (u.1.1 + j), Sum.inl (u.2.2.2.1 j, u.2.2.2.2 j, Sum.inl f)) = gf_w u ob σ' := by
  refine gf_wext (by rw [List.length_set, gf_wlen]) (fun q hq => ?_) (fun q hq => ?_)
  · rw [List.getElem?_set_ne (by omega), gf_wo q hq, ho q hq]
  · by_cases h : j = q
    · subst h
      rw [List.getElem?_set_self (by rw [gf_wlen]; omega), hf]
    · rw [List.getElem?_set_ne (by omega), gf_wa q hq, ha q (fun e => h e.symm)]
section GF
variable {D : va_G} {cl : List vw_C} {tys : List (ClassId × FieldType)} {u : gf_U} {ob : Nat → Nat} {X : gx_X} {cc : ByteArray} {own : String} {nL fr lo : Nat} {rt : Option FieldType} {res : gx_R} {σ : gx_S} {pc : Nat} {lv : List (Nat × Value)} {st : List Value}
/-- getfield -/
theorem gf_get (hX : gx_K (gf_V D cl tys u ob) X cc own nL fr lo rt) {C : String} {T : u_T} {N ci idx : Nat} {v : Value} (k f n : Nat) (hk : k < u.1.1) (hc : cl[ci]? = some (C, T, N)) (hin : ∀ w ∈ u_ws C T N, w ∈ gx_T) (hf : f < N) (hlink : Cond.fieldLink own idx (T f).1 (T f).2.1 (T f).2.2.1 ∈ gx_T) (hO : (u.2.1 σ k).1 = ci) (hv : (u.2.1 σ k).2[f]? = some v) (hd : decode cc pc = .ok (.getfield idx, 3)) (hn : pc + 3 = n)
    (kk : gx_G (gf_V D cl tys u ob) X res σ n lv (v :: st)) : gx_G (gf_V D cl tys u ob) X res σ pc lv (.ref (ob k) :: st) := by
  subst hn
  obtain ⟨⟨p, l, e, R, s, m, args, below, meth, c⟩, A, σ0, vd⟩ := X
  obtain ⟨hx, hb, hml, hown, hts, hr, hlocks, hK, hA, -⟩ := hX
  intro out h1 h2 ar H locs cells slots ls hls hP hD hS hc' hs
  have hP' : va_P D cl (gf_w u ob σ) H := hP
  have hK' : va_K D cl tys s := hK
  exact va_get (ci := ci) hx hb hts hin hown hK' hP' k (fs := (u.2.1 σ k).2) (by rw [gf_wo k hk, ← hO]) hc f hf (hts _ hlink) (fun _ h => h) hv hd (kk out h1 h2 ar H locs cells slots ls hls hP hD hS hc' hs)
/-- putfield of an int field -/
theorem gf_put (hX : gx_K (gf_V D cl tys u ob) X cc own nL fr lo rt) {C : String} {T : u_T} {N ci idx : Nat} {x : Int32} {kf : gx_S → gx_R} (k f iv n : Nat) (hk : k < u.1.1) (hc : cl[ci]? = some (C, T, N)) (hin : ∀ w ∈ u_ws C T N, w ∈ gx_T) (ty0 : Nat → FieldType) (hty : ∀ k, k < N → parseFieldDescriptor (T k).2.2.1 = some (ty0 k)) (hnm : ∀ a, a < N → ∀ b, b < N → a ≠ b → (T a).2.1 ≠ (T b).2.1) (hf : f < N) (hlink : Cond.fieldLink own idx (T f).1 (T f).2.1 (T f).2.2.1 ∈ gx_T) (hfin : (T f).2.2.2 = false) (hdd : parseFieldDescriptor (T f).2.2.1 = some .int)
    (hO : (u.2.1 σ k).1 = ci) (hl : f < (u.2.1 σ k).2.length) (hO2 : u.2.1 (gx_si σ iv x) k = (ci, (u.2.1 σ k).2.set f (.int x))) (hne : ∀ q, q < u.1.1 → q ≠ k → u.2.1 (gx_si σ iv x) q = u.2.1 σ q) (hd : decode cc pc = .ok (.putfield idx, 3)) (hn : pc + 3 = n)
    (kk : ∀ σ', gx_G (gf_V D cl tys u ob) X (kf σ') σ' n lv st) : gx_G (gf_V D cl tys u ob) X (gx_sb (gx_si σ iv x) kf) σ pc lv (.int x :: .ref (ob k) :: st) := by
  subst hn
  obtain ⟨⟨p, l, e, R, s, m, args, below, meth, c⟩, A, σ0, vd⟩ := X
  obtain ⟨hx, hb, hml, hown, hts, hr, hlocks, hK, hA, -⟩ := hX
  intro out h1 h2 ar H locs cells slots ls hls hP hD hS hc' hs
  have hP' : va_P D cl (gf_w u ob σ) H := hP
  have hD' : va_D A (gf_w u ob σ) := hD
  have hK' : va_K D cl tys s := hK
  refine va_put (ci := ci) (ty := .int) hx hb hts hin ty0 hty hnm hown hK' hP' hD' hS k (fs := (u.2.1 σ k).2) (by rw [gf_wo k hk, ← hO]) hc f hf (hts _ hlink) (fun _ h => h) hfin hdd rfl rfl hl hd (fun H1 locs1 hP1 hD1 hS1 => ?_)
  have e := gf_setO (ob := ob) (σ := σ) (σ' := gx_si σ iv x) hk hO2 hne rfl
  rw [e] at hP1 hD1
  exact kk (gx_si σ iv x) out h1 h2 ar H1 locs1 cells slots ls hls hP1 hD1 hS1 hc' hs
end GF
def gx_ld (σ : gx_S) (j len : Nat) (i : Int32) (k : Int32 → gx_R) : gx_R := if i < 0 ∨ len ≤ i.toNatClampNeg then none else k (σ.2.1 j i.toNatClampNeg)
def gx_st (σ : gx_S) (j len : Nat) (i v : Int32) (k : gx_S → gx_R) : gx_R := if i < 0 ∨ len ≤ i.toNatClampNeg then none else k (gx_sa σ j i.toNatClampNeg v)
section GFA
variable {D : va_G} {cl : List vw_C} {tys : List (ClassId × FieldType)} {u : gf_U} {ob : Nat → Nat} {X : gx_X} {cc : ByteArray} {own : String} {nL fr lo : Nat} {rt : Option FieldType} {res : gx_R} {σ : gx_S} {pc : Nat} {lv : List (Nat × Value)} {st : List Value}
theorem gf_recv {C : String} {ci : Nat} {q : u_T × Nat} (k : Nat) (hk : k < u.1.1) (hc : cl[ci]? = some (C, q)) (hO : (u.2.1 σ k).1 = ci) : ∃ (q0 ci : Nat) (q : u_T × Nat), (gf_V D cl tys u ob).1.2.1[ci]? = some (C, q) ∧ ∀ ar, ∃ fs, ((gf_V D cl tys u ob).2.1 ar σ)[q0]? = some (ob k, .inr (ci, fs)) :=
  ⟨k, ci, q, hc, fun _ => ⟨(u.2.1 σ k).2, by show (gf_w u ob σ)[k]? = _; rw [gf_wo k hk, ← hO]⟩⟩
theorem gf_alen (hX : gx_K (gf_V D cl tys u ob) X cc own nL fr lo rt) (j q t0 n : Nat) (v : Int32) {ty : FieldType} (hj : j < u.1.2) (hq : u.1.1 + j = q) (ht : tys[t0]? = some (u.2.2.2.1 j, ty)) (hv : Int32.ofNat (u.2.2.2.2 j) = v) (hd : decode cc pc = .ok (.arraylength, 1)) (hn : pc + 1 = n)
    (kk : gx_G (gf_V D cl tys u ob) X res σ n lv (.int v :: st)) : gx_G (gf_V D cl tys u ob) X res σ pc lv (.ref (ob q) :: st) := by
  subst hn
  subst hq
  obtain ⟨⟨p, l, e, R, s, m, args, below, meth, c⟩, A, σ0, vd⟩ := X
  obtain ⟨hx, hb, hml, hown, hts, hr, hlocks, hK, hA, -⟩ := hX
  intro out h1 h2 ar H locs cells slots ls hls hP hD hS hc' hs
  have hP' : va_P D cl (gf_w u ob σ) H := hP
  have hK' : va_K D cl tys s := hK
  exact va_alen hx hb hK' hP' (u.1.1 + j) t0 (gf_wa j hj) ht hv hd (kk out h1 h2 ar H locs cells slots ls hls hP hD hS hc' hs)
theorem gf_iald (hX : gx_K (gf_V D cl tys u ob) X cc own nL fr lo rt) {i : Int32} {k : Int32 → gx_R} (j q t0 n : Nat) (hj : j < u.1.2) (hq : u.1.1 + j = q) (ht : tys[t0]? = some (u.2.2.2.1 j, .int)) (hd : decode cc pc = .ok (.iaload, 1)) (hn : pc + 1 = n)
    (kk : ∀ r, gx_G (gf_V D cl tys u ob) X (k r) σ n lv (.int r :: st)) : gx_G (gf_V D cl tys u ob) X (gx_ld σ j (u.2.2.2.2 j) i k) σ pc lv (.int i :: .ref (ob q) :: st) := by
  subst hn
  subst hq
  obtain ⟨⟨p, l, e, R, s, m, args, below, meth, c⟩, A, σ0, vd⟩ := X
  obtain ⟨hx, hb, hml, hown, hts, hr, hlocks, hK, hA, -⟩ := hX
  intro out h1 h2 ar H locs cells slots ls hls hP hD hS hc' hs
  have hP' : va_P D cl (gf_w u ob σ) H := hP
  have hK' : va_K D cl tys s := hK
  by_cases hi : i < 0 ∨ u.2.2.2.2 j ≤ i.toNatClampNeg
  · rw [gx_ld, if_pos hi] at h1
    cases h1
  · rw [gx_ld, if_neg hi] at h1
    exact va_iald hx hb hK' hP' (u.1.1 + j) t0 (gf_wa j hj) ht hi hd (kk _ out h1 h2 ar H locs cells slots ls hls hP hD hS hc' hs)
theorem gf_iast (hX : gx_K (gf_V D cl tys u ob) X cc own nL fr lo rt) {i x : Int32} {k : gx_S → gx_R} (j q t0 n : Nat) (hj : j < u.1.2) (hq : u.1.1 + j = q) (ht : tys[t0]? = some (u.2.2.2.1 j, .int)) (hu : ∀ i v q, u.2.1 (gx_sa σ j i v) q = u.2.1 σ q) (hd : decode cc pc = .ok (.iastore, 1)) (hn : pc + 1 = n)
    (kk : ∀ σ', gx_G (gf_V D cl tys u ob) X (k σ') σ' n lv st) : gx_G (gf_V D cl tys u ob) X (gx_st σ j (u.2.2.2.2 j) i x k) σ pc lv (.int x :: .int i :: .ref (ob q) :: st) := by
  subst hn
  subst hq
  obtain ⟨⟨p, l, e, R, s, m, args, below, meth, c⟩, A, σ0, vd⟩ := X
  obtain ⟨hx, hb, hml, hown, hts, hr, hlocks, hK, hA, -⟩ := hX
  intro out h1 h2 ar H locs cells slots ls hls hP hD hS hc' hs
  have hP' : va_P D cl (gf_w u ob σ) H := hP
  have hD' : va_D A (gf_w u ob σ) := hD
  have hK' : va_K D cl tys s := hK
  by_cases hi : i < 0 ∨ u.2.2.2.2 j ≤ i.toNatClampNeg
  · rw [gx_st, if_pos hi] at h1
    cases h1
  · rw [gx_st, if_neg hi] at h1
    refine va_iast hx hb hK' hP' hD' hS (u.1.1 + j) t0 (gf_wa j hj) ht hi hd (fun H1 locs1 hP1 hD1 hS1 => ?_)
    have e := gf_setA (ob := ob) (σ := σ) (σ' := gx_sa σ j i.toNatClampNeg x) (f := upd (σ.2.1 j) i.toNatClampNeg x) hj (fun q _ => hu _ _ q) (by show (if j = j then _ else _) = _; rw [if_pos rfl]) (fun q hq => by show (if q = j then _ else _) = _; rw [if_neg hq])
    rw [e] at hP1 hD1
    exact kk _ out h1 h2 ar H1 locs1 cells slots ls hls hP1 hD1 hS1 hc' hs
theorem gf_bald (hX : gx_K (gf_V D cl tys u ob) X cc own nL fr lo rt) {i : Int32} {k : Int32 → gx_R} (j q t0 n : Nat) (hj : j < u.1.2) (hq : u.1.1 + j = q) (ht : tys[t0]? = some (u.2.2.2.1 j, .byte)) (hd : decode cc pc = .ok (.baload, 1)) (hn : pc + 1 = n)
    (kk : ∀ r, gx_G (gf_V D cl tys u ob) X (k r) σ n lv (.int r :: st)) : gx_G (gf_V D cl tys u ob) X (gx_ld σ j (u.2.2.2.2 j) i k) σ pc lv (.int i :: .ref (ob q) :: st) := by
  subst hn
  subst hq
  obtain ⟨⟨p, l, e, R, s, m, args, below, meth, c⟩, A, σ0, vd⟩ := X
  obtain ⟨hx, hb, hml, hown, hts, hr, hlocks, hK, hA, -⟩ := hX
  intro out h1 h2 ar H locs cells slots ls hls hP hD hS hc' hs
  have hP' : va_P D cl (gf_w u ob σ) H := hP
  have hK' : va_K D cl tys s := hK
  by_cases hi : i < 0 ∨ u.2.2.2.2 j ≤ i.toNatClampNeg
  · rw [gx_ld, if_pos hi] at h1
    cases h1
  · rw [gx_ld, if_neg hi] at h1
    exact va_bald hx hb hK' hP' (u.1.1 + j) t0 (gf_wa j hj) ht hi hd (kk _ out h1 h2 ar H locs cells slots ls hls hP hD hS hc' hs)
theorem gf_bast (hX : gx_K (gf_V D cl tys u ob) X cc own nL fr lo rt) {i x : Int32} {k : gx_S → gx_R} (j q t0 n : Nat) (hj : j < u.1.2) (hq : u.1.1 + j = q) (ht : tys[t0]? = some (u.2.2.2.1 j, .byte)) (hu : ∀ i v q, u.2.1 (gx_sa σ j i v) q = u.2.1 σ q) (hd : decode cc pc = .ok (.bastore, 1)) (hn : pc + 1 = n)
    (kk : ∀ σ', gx_G (gf_V D cl tys u ob) X (k σ') σ' n lv st) : gx_G (gf_V D cl tys u ob) X (gx_st σ j (u.2.2.2.2 j) i (vp_nar .byte x) k) σ pc lv (.int x :: .int i :: .ref (ob q) :: st) := by
  subst hn
  subst hq
  obtain ⟨⟨p, l, e, R, s, m, args, below, meth, c⟩, A, σ0, vd⟩ := X
  obtain ⟨hx, hb, hml, hown, hts, hr, hlocks, hK, hA, -⟩ := hX
  intro out h1 h2 ar H locs cells slots ls hls hP hD hS hc' hs
  have hP' : va_P D cl (gf_w u ob σ) H := hP
  have hD' : va_D A (gf_w u ob σ) := hD
  have hK' : va_K D cl tys s := hK
  by_cases hi : i < 0 ∨ u.2.2.2.2 j ≤ i.toNatClampNeg
  · rw [gx_st, if_pos hi] at h1
    cases h1
  · rw [gx_st, if_neg hi] at h1
    refine va_bast hx hb hK' hP' hD' hS (u.1.1 + j) t0 (gf_wa j hj) ht hi hd (fun H1 locs1 hP1 hD1 hS1 => ?_)
    have e := gf_setA (ob := ob) (σ := σ) (σ' := gx_sa σ j i.toNatClampNeg (vp_nar .byte x)) (f := upd (σ.2.1 j) i.toNatClampNeg (vp_nar .byte x)) hj (fun q _ => hu _ _ q) (by show (if j = j then _ else _) = _; rw [if_pos rfl]) (fun q hq => by show (if q = j then _ else _) = _; rw [if_neg hq])
    rw [e] at hP1 hD1
    exact kk _ out h1 h2 ar H1 locs1 cells slots ls hls hP1 hD1 hS1 hc' hs
theorem gf_zald (hX : gx_K (gf_V D cl tys u ob) X cc own nL fr lo rt) {i : Int32} {k : Int32 → gx_R} (j q t0 n : Nat) (hj : j < u.1.2) (hq : u.1.1 + j = q) (ht : tys[t0]? = some (u.2.2.2.1 j, .boolean)) (hd : decode cc pc = .ok (.baload, 1)) (hn : pc + 1 = n)
    (kk : ∀ r, gx_G (gf_V D cl tys u ob) X (k r) σ n lv (.int r :: st)) : gx_G (gf_V D cl tys u ob) X (gx_ld σ j (u.2.2.2.2 j) i k) σ pc lv (.int i :: .ref (ob q) :: st) := by
  subst hn
  subst hq
  obtain ⟨⟨p, l, e, R, s, m, args, below, meth, c⟩, A, σ0, vd⟩ := X
  obtain ⟨hx, hb, hml, hown, hts, hr, hlocks, hK, hA, -⟩ := hX
  intro out h1 h2 ar H locs cells slots ls hls hP hD hS hc' hs
  have hP' : va_P D cl (gf_w u ob σ) H := hP
  have hK' : va_K D cl tys s := hK
  by_cases hi : i < 0 ∨ u.2.2.2.2 j ≤ i.toNatClampNeg
  · rw [gx_ld, if_pos hi] at h1
    cases h1
  · rw [gx_ld, if_neg hi] at h1
    exact va_zald hx hb hK' hP' (u.1.1 + j) t0 (gf_wa j hj) ht hi hd (kk _ out h1 h2 ar H locs cells slots ls hls hP hD hS hc' hs)
theorem gf_zast (hX : gx_K (gf_V D cl tys u ob) X cc own nL fr lo rt) {i x : Int32} {k : gx_S → gx_R} (j q t0 n : Nat) (hj : j < u.1.2) (hq : u.1.1 + j = q) (ht : tys[t0]? = some (u.2.2.2.1 j, .boolean)) (hu : ∀ i v q, u.2.1 (gx_sa σ j i v) q = u.2.1 σ q) (hd : decode cc pc = .ok (.bastore, 1)) (hn : pc + 1 = n)
    (kk : ∀ σ', gx_G (gf_V D cl tys u ob) X (k σ') σ' n lv st) : gx_G (gf_V D cl tys u ob) X (gx_st σ j (u.2.2.2.2 j) i (vp_nar .boolean x) k) σ pc lv (.int x :: .int i :: .ref (ob q) :: st) := by
  subst hn
  subst hq
  obtain ⟨⟨p, l, e, R, s, m, args, below, meth, c⟩, A, σ0, vd⟩ := X
  obtain ⟨hx, hb, hml, hown, hts, hr, hlocks, hK, hA, -⟩ := hX
  intro out h1 h2 ar H locs cells slots ls hls hP hD hS hc' hs
  have hP' : va_P D cl (gf_w u ob σ) H := hP
  have hD' : va_D A (gf_w u ob σ) := hD
  have hK' : va_K D cl tys s := hK
  by_cases hi : i < 0 ∨ u.2.2.2.2 j ≤ i.toNatClampNeg
  · rw [gx_st, if_pos hi] at h1
    cases h1
  · rw [gx_st, if_neg hi] at h1
    refine va_zast hx hb hK' hP' hD' hS (u.1.1 + j) t0 (gf_wa j hj) ht hi hd (fun H1 locs1 hP1 hD1 hS1 => ?_)
    have e := gf_setA (ob := ob) (σ := σ) (σ' := gx_sa σ j i.toNatClampNeg (vp_nar .boolean x)) (f := upd (σ.2.1 j) i.toNatClampNeg (vp_nar .boolean x)) hj (fun q _ => hu _ _ q) (by show (if j = j then _ else _) = _; rw [if_pos rfl]) (fun q hq => by show (if q = j then _ else _) = _; rw [if_neg hq])
    rw [e] at hP1 hD1
    exact kk _ out h1 h2 ar H1 locs1 cells slots ls hls hP1 hD1 hS1 hc' hs
theorem gf_sald (hX : gx_K (gf_V D cl tys u ob) X cc own nL fr lo rt) {i : Int32} {k : Int32 → gx_R} (j q t0 n : Nat) (hj : j < u.1.2) (hq : u.1.1 + j = q) (ht : tys[t0]? = some (u.2.2.2.1 j, .short)) (hd : decode cc pc = .ok (.saload, 1)) (hn : pc + 1 = n)
    (kk : ∀ r, gx_G (gf_V D cl tys u ob) X (k r) σ n lv (.int r :: st)) : gx_G (gf_V D cl tys u ob) X (gx_ld σ j (u.2.2.2.2 j) i k) σ pc lv (.int i :: .ref (ob q) :: st) := by
  subst hn
  subst hq
  obtain ⟨⟨p, l, e, R, s, m, args, below, meth, c⟩, A, σ0, vd⟩ := X
  obtain ⟨hx, hb, hml, hown, hts, hr, hlocks, hK, hA, -⟩ := hX
  intro out h1 h2 ar H locs cells slots ls hls hP hD hS hc' hs
  have hP' : va_P D cl (gf_w u ob σ) H := hP
  have hK' : va_K D cl tys s := hK
  by_cases hi : i < 0 ∨ u.2.2.2.2 j ≤ i.toNatClampNeg
  · rw [gx_ld, if_pos hi] at h1
    cases h1
  · rw [gx_ld, if_neg hi] at h1
    exact va_sald hx hb hK' hP' (u.1.1 + j) t0 (gf_wa j hj) ht hi hd (kk _ out h1 h2 ar H locs cells slots ls hls hP hD hS hc' hs)
theorem gf_sast (hX : gx_K (gf_V D cl tys u ob) X cc own nL fr lo rt) {i x : Int32} {k : gx_S → gx_R} (j q t0 n : Nat) (hj : j < u.1.2) (hq : u.1.1 + j = q) (ht : tys[t0]? = some (u.2.2.2.1 j, .short)) (hu : ∀ i v q, u.2.1 (gx_sa σ j i v) q = u.2.1 σ q) (hd : decode cc pc = .ok (.sastore, 1)) (hn : pc + 1 = n)
    (kk : ∀ σ', gx_G (gf_V D cl tys u ob) X (k σ') σ' n lv st) : gx_G (gf_V D cl tys u ob) X (gx_st σ j (u.2.2.2.2 j) i (vp_nar .short x) k) σ pc lv (.int x :: .int i :: .ref (ob q) :: st) := by
  subst hn
  subst hq
  obtain ⟨⟨p, l, e, R, s, m, args, below, meth, c⟩, A, σ0, vd⟩ := X
  obtain ⟨hx, hb, hml, hown, hts, hr, hlocks, hK, hA, -⟩ := hX
  intro out h1 h2 ar H locs cells slots ls hls hP hD hS hc' hs
  have hP' : va_P D cl (gf_w u ob σ) H := hP
  have hD' : va_D A (gf_w u ob σ) := hD
  have hK' : va_K D cl tys s := hK
  by_cases hi : i < 0 ∨ u.2.2.2.2 j ≤ i.toNatClampNeg
  · rw [gx_st, if_pos hi] at h1
    cases h1
  · rw [gx_st, if_neg hi] at h1
    refine va_sast hx hb hK' hP' hD' hS (u.1.1 + j) t0 (gf_wa j hj) ht hi hd (fun H1 locs1 hP1 hD1 hS1 => ?_)
    have e := gf_setA (ob := ob) (σ := σ) (σ' := gx_sa σ j i.toNatClampNeg (vp_nar .short x)) (f := upd (σ.2.1 j) i.toNatClampNeg (vp_nar .short x)) hj (fun q _ => hu _ _ q) (by show (if j = j then _ else _) = _; rw [if_pos rfl]) (fun q hq => by show (if q = j then _ else _) = _; rw [if_neg hq])
    rw [e] at hP1 hD1
    exact kk _ out h1 h2 ar H1 locs1 cells slots ls hls hP1 hD1 hS1 hc' hs
end GFA
