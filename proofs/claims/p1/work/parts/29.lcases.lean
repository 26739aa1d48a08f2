set_option maxRecDepth 100000 in
set_option maxHeartbeats 4000000 in
theorem lc_0 {D : va_G} {cI cB cS cZ : ClassId} {X : gx_X} {Qq : State → Prop} {ob om : Nat → Nat} {fl : Nat → Int32} {b L : Nat} {xs : Nat → Int32} (hX : gj_K (D, tq_cl, [(cI, .int), (cB, .byte), (cS, .short), (cZ, .boolean)]) X code "TypeLoomLaw" 4 11 460 600000 7302250) (hB : va_X b L xs X.1.2.2.2.2.1 X.1.2.2.2.2.1.heap ∧ b < X.1.2.2.2.2.1.heap.size ∧ ¬ X.2.1 b) (hL : L = 7) (hE : ∀ σ τ, gj_G (D, tq_cl, [(cI, .int), (cB, .byte), (cS, .short), (cZ, .boolean)]) X Qq (gf_w (tc_u ob cI) ob σ ++ gf_w (md_u om cI cB cS cZ) om τ) 155 1132377 854 [(3, .int 0), (2, .ref (om 0)), (1, .ref (ob 0)), (0, .ref b)] []) : gj_G (D, tq_cl, [(cI, .int), (cB, .byte), (cS, .short), (cZ, .boolean)]) X Qq (gf_w (tc_u ob cI) ob tc_0 ++ gf_w (md_u om cI cB cS cZ) om (md_0 fl)) 155 1132377 120 [(3, .int 0), (2, .ref (om 0)), (1, .ref (ob 0)), (0, .ref b)] [] := by
  refine gj_aload_n hX 2 121 dw_L_law_120 rfl rfl rfl ?_
  refine gj_aload_n hX 3 122 dw_L_law_121 rfl rfl rfl ?_
  refine gj_iload_n hX 0 123 dw_L_law_122 rfl rfl rfl ?_
  refine gj_iconst hX 1 124 dw_L_law_123 (by decide) rfl ?_
  refine gj_iadd hX (nI 1) 125 (by decide) dw_L_law_124 rfl ?_
  refine gj_sld hX 1 126 hB rfl (by omega) (by omega) dw_L_law_125 rfl ?_
  refine gj_aload_n hX 3 127 dw_L_law_126 rfl rfl rfl ?_
  refine gj_iload_n hX 0 128 dw_L_law_127 rfl rfl rfl ?_
  refine gj_iconst hX 2 129 dw_L_law_128 (by decide) rfl ?_
  refine gj_iadd hX (nI 2) 130 (by decide) dw_L_law_129 rfl ?_
  refine gj_sld hX 2 131 hB rfl (by omega) (by omega) dw_L_law_130 rfl ?_
  obtain ⟨r, σ1, τ1, e1, e2⟩ := pr_constructor fl ((xs 1)) ((xs 2))
  refine gj_swap ?_
  refine gj_callX (u := tc_u ob cI) (ob := ob) (tys' := [(cI, .int)]) (σ := tc_0) (σ' := σ1) (r := r) (st := []) hX [.int (xs 1), .int (xs 2)] 134 rfl (by rw [← e1]; exact tm_T_constructor _ tc_0 ((xs 1)) ((xs 2))) (fun U h => h.sub [0] rfl) hy_T_constructor tw_478 tw_475 tw_476 tw_477 tw_70 ⟨0, 0, (tf_0, 8), rfl, (tc_O ob tc_0 0).2, gf_wo 0 (show 0 < 55 by decide)⟩ ⟨(Nat.le_of_ble_eq_true rfl), (Nat.le_of_ble_eq_true rfl)⟩ (Nat.le_of_ble_eq_true rfl) (Nat.le_of_ble_eq_true rfl) (Nat.le_of_ble_eq_true rfl) dw_L_law_131 rfl rfl ?_
  refine gj_swap ?_
  refine gj_aload_n hX 1 135 dw_L_law_134 rfl rfl rfl ?_
  refine gj_aload_n hX 3 136 dw_L_law_135 rfl rfl rfl ?_
  refine gj_iload_n hX 0 137 dw_L_law_136 rfl rfl rfl ?_
  refine gj_iconst hX 1 138 dw_L_law_137 (by decide) rfl ?_
  refine gj_iadd hX (nI 1) 139 (by decide) dw_L_law_138 rfl ?_
  refine gj_sld hX 1 140 hB rfl (by omega) (by omega) dw_L_law_139 rfl ?_
  refine gj_aload_n hX 3 141 dw_L_law_140 rfl rfl rfl ?_
  refine gj_iload_n hX 0 142 dw_L_law_141 rfl rfl rfl ?_
  refine gj_iconst hX 2 143 dw_L_law_142 (by decide) rfl ?_
  refine gj_iadd hX (nI 2) 144 (by decide) dw_L_law_143 rfl ?_
  refine gj_sld hX 2 145 hB rfl (by omega) (by omega) dw_L_law_144 rfl ?_
  refine gj_callX (u := md_u om cI cB cS cZ) (ob := om) (tys' := [(cI, .int), (cB, .byte), (cS, .short), (cZ, .boolean)]) (σ := md_0 fl) (σ' := τ1) (r := r) (st := [.int r]) hX [.int (xs 1), .int (xs 2)] 148 rfl (by rw [← e2]; exact tm_M_constructor _ (md_0 fl) ((xs 1)) ((xs 2))) (fun U h => h) hy_M_constructor tw_1134 tw_1131 tw_1132 tw_1133 tw_79 ⟨0, 9, (tf_9, 73), rfl, (md_O om (md_0 fl) 0).2, gf_wo 0 (show 0 < 1 by decide)⟩ ⟨(Nat.le_of_ble_eq_true rfl), (Nat.le_of_ble_eq_true rfl)⟩ (Nat.le_of_ble_eq_true rfl) (Nat.le_of_ble_eq_true rfl) (Nat.le_of_ble_eq_true rfl) dw_L_law_145 rfl rfl ?_
  refine gj_icmp_eq hX 854 151 dw_L_law_148 (by decide) rfl (fun _ => ?_) (fun h => absurd rfl h)
  exact hE σ1 τ1
set_option maxRecDepth 100000 in
set_option maxHeartbeats 4000000 in
theorem lc_1 {D : va_G} {cI cB cS cZ : ClassId} {X : gx_X} {Qq : State → Prop} {ob om : Nat → Nat} {fl : Nat → Int32} {b L : Nat} {xs : Nat → Int32} (hX : gj_K (D, tq_cl, [(cI, .int), (cB, .byte), (cS, .short), (cZ, .boolean)]) X code "TypeLoomLaw" 4 11 460 600000 7302250) (hB : va_X b L xs X.1.2.2.2.2.1 X.1.2.2.2.2.1.heap ∧ b < X.1.2.2.2.2.1.heap.size ∧ ¬ X.2.1 b) (hL : L = 7) (hE : ∀ σ τ, gj_G (D, tq_cl, [(cI, .int), (cB, .byte), (cS, .short), (cZ, .boolean)]) X Qq (gf_w (tc_u ob cI) ob σ ++ gf_w (md_u om cI cB cS cZ) om τ) 155 1132377 854 [(3, .int 0), (2, .ref (om 0)), (1, .ref (ob 0)), (0, .ref b)] []) : gj_G (D, tq_cl, [(cI, .int), (cB, .byte), (cS, .short), (cZ, .boolean)]) X Qq (gf_w (tc_u ob cI) ob tc_0 ++ gf_w (md_u om cI cB cS cZ) om (md_0 fl)) 155 1132377 153 [(3, .int 0), (2, .ref (om 0)), (1, .ref (ob 0)), (0, .ref b)] [] := by
  refine gj_aload_n hX 2 154 dw_L_law_153 rfl rfl rfl ?_
  refine gj_aload_n hX 3 155 dw_L_law_154 rfl rfl rfl ?_
  refine gj_iload_n hX 0 156 dw_L_law_155 rfl rfl rfl ?_
  refine gj_iconst hX 1 157 dw_L_law_156 (by decide) rfl ?_
  refine gj_iadd hX (nI 1) 158 (by decide) dw_L_law_157 rfl ?_
  refine gj_sld hX 1 159 hB rfl (by omega) (by omega) dw_L_law_158 rfl ?_
  refine gj_aload_n hX 3 160 dw_L_law_159 rfl rfl rfl ?_
  refine gj_iload_n hX 0 161 dw_L_law_160 rfl rfl rfl ?_
  refine gj_iconst hX 2 162 dw_L_law_161 (by decide) rfl ?_
  refine gj_iadd hX (nI 2) 163 (by decide) dw_L_law_162 rfl ?_
  refine gj_sld hX 2 164 hB rfl (by omega) (by omega) dw_L_law_163 rfl ?_
  obtain ⟨r, σ1, τ1, e1, e2⟩ := pr_push fl ((xs 1)) ((xs 2))
  refine gj_swap ?_
  refine gj_callX (u := tc_u ob cI) (ob := ob) (tys' := [(cI, .int)]) (σ := tc_0) (σ' := σ1) (r := r) (st := []) hX [.int (xs 1), .int (xs 2)] 167 rfl (by rw [← e1]; exact tm_T_push _ tc_0 ((xs 1)) ((xs 2))) (fun U h => h.sub [0] rfl) hy_T_push tw_510 tw_507 tw_508 tw_509 tw_70 ⟨0, 0, (tf_0, 8), rfl, (tc_O ob tc_0 0).2, gf_wo 0 (show 0 < 55 by decide)⟩ ⟨(Nat.le_of_ble_eq_true rfl), (Nat.le_of_ble_eq_true rfl)⟩ (Nat.le_of_ble_eq_true rfl) (Nat.le_of_ble_eq_true rfl) (Nat.le_of_ble_eq_true rfl) dw_L_law_164 rfl rfl ?_
  refine gj_swap ?_
  refine gj_aload_n hX 1 168 dw_L_law_167 rfl rfl rfl ?_
  refine gj_aload_n hX 3 169 dw_L_law_168 rfl rfl rfl ?_
  refine gj_iload_n hX 0 170 dw_L_law_169 rfl rfl rfl ?_
  refine gj_iconst hX 1 171 dw_L_law_170 (by decide) rfl ?_
  refine gj_iadd hX (nI 1) 172 (by decide) dw_L_law_171 rfl ?_
  refine gj_sld hX 1 173 hB rfl (by omega) (by omega) dw_L_law_172 rfl ?_
  refine gj_aload_n hX 3 174 dw_L_law_173 rfl rfl rfl ?_
  refine gj_iload_n hX 0 175 dw_L_law_174 rfl rfl rfl ?_
  refine gj_iconst hX 2 176 dw_L_law_175 (by decide) rfl ?_
  refine gj_iadd hX (nI 2) 177 (by decide) dw_L_law_176 rfl ?_
  refine gj_sld hX 2 178 hB rfl (by omega) (by omega) dw_L_law_177 rfl ?_
  refine gj_callX (u := md_u om cI cB cS cZ) (ob := om) (tys' := [(cI, .int), (cB, .byte), (cS, .short), (cZ, .boolean)]) (σ := md_0 fl) (σ' := τ1) (r := r) (st := [.int r]) hX [.int (xs 1), .int (xs 2)] 181 rfl (by rw [← e2]; exact tm_M_push _ (md_0 fl) ((xs 1)) ((xs 2))) (fun U h => h) hy_M_push tw_1138 tw_1135 tw_1136 tw_1137 tw_79 ⟨0, 9, (tf_9, 73), rfl, (md_O om (md_0 fl) 0).2, gf_wo 0 (show 0 < 1 by decide)⟩ ⟨(Nat.le_of_ble_eq_true rfl), (Nat.le_of_ble_eq_true rfl)⟩ (Nat.le_of_ble_eq_true rfl) (Nat.le_of_ble_eq_true rfl) (Nat.le_of_ble_eq_true rfl) dw_L_law_178 rfl rfl ?_
  refine gj_icmp_eq hX 854 184 dw_L_law_181 (by decide) rfl (fun _ => ?_) (fun h => absurd rfl h)
  exact hE σ1 τ1
set_option maxRecDepth 100000 in
set_option maxHeartbeats 4000000 in
theorem lc_2 {D : va_G} {cI cB cS cZ : ClassId} {X : gx_X} {Qq : State → Prop} {ob om : Nat → Nat} {fl : Nat → Int32} {b L : Nat} {xs : Nat → Int32} (hX : gj_K (D, tq_cl, [(cI, .int), (cB, .byte), (cS, .short), (cZ, .boolean)]) X code "TypeLoomLaw" 4 11 460 600000 7302250) (hB : va_X b L xs X.1.2.2.2.2.1 X.1.2.2.2.2.1.heap ∧ b < X.1.2.2.2.2.1.heap.size ∧ ¬ X.2.1 b) (hL : L = 7) (hE : ∀ σ τ, gj_G (D, tq_cl, [(cI, .int), (cB, .byte), (cS, .short), (cZ, .boolean)]) X Qq (gf_w (tc_u ob cI) ob σ ++ gf_w (md_u om cI cB cS cZ) om τ) 155 1132377 854 [(3, .int 0), (2, .ref (om 0)), (1, .ref (ob 0)), (0, .ref b)] []) : gj_G (D, tq_cl, [(cI, .int), (cB, .byte), (cS, .short), (cZ, .boolean)]) X Qq (gf_w (tc_u ob cI) ob tc_0 ++ gf_w (md_u om cI cB cS cZ) om (md_0 fl)) 155 1132377 186 [(3, .int 0), (2, .ref (om 0)), (1, .ref (ob 0)), (0, .ref b)] [] := by
  refine gj_aload_n hX 2 187 dw_L_law_186 rfl rfl rfl ?_
  refine gj_aload_n hX 3 188 dw_L_law_187 rfl rfl rfl ?_
  refine gj_iload_n hX 0 189 dw_L_law_188 rfl rfl rfl ?_
  refine gj_iconst hX 1 190 dw_L_law_189 (by decide) rfl ?_
  refine gj_iadd hX (nI 1) 191 (by decide) dw_L_law_190 rfl ?_
  refine gj_sld hX 1 192 hB rfl (by omega) (by omega) dw_L_law_191 rfl ?_
  obtain ⟨r, σ1, τ1, e1, e2⟩ := pr_built fl ((xs 1))
  refine gj_swap ?_
  refine gj_callX (u := tc_u ob cI) (ob := ob) (tys' := [(cI, .int)]) (σ := tc_0) (σ' := σ1) (r := r) (st := []) hX [.int (xs 1)] 195 rfl (by rw [← e1]; exact tm_T_built _ tc_0 ((xs 1))) (fun U h => h.sub [0] rfl) hy_T_built tw_536 tw_533 tw_534 tw_535 tw_70 ⟨0, 0, (tf_0, 8), rfl, (tc_O ob tc_0 0).2, gf_wo 0 (show 0 < 55 by decide)⟩ ⟨(Nat.le_of_ble_eq_true rfl), (Nat.le_of_ble_eq_true rfl)⟩ (Nat.le_of_ble_eq_true rfl) (Nat.le_of_ble_eq_true rfl) (Nat.le_of_ble_eq_true rfl) dw_L_law_192 rfl rfl ?_
  refine gj_swap ?_
  refine gj_aload_n hX 1 196 dw_L_law_195 rfl rfl rfl ?_
  refine gj_aload_n hX 3 197 dw_L_law_196 rfl rfl rfl ?_
  refine gj_iload_n hX 0 198 dw_L_law_197 rfl rfl rfl ?_
  refine gj_iconst hX 1 199 dw_L_law_198 (by decide) rfl ?_
  refine gj_iadd hX (nI 1) 200 (by decide) dw_L_law_199 rfl ?_
  refine gj_sld hX 1 201 hB rfl (by omega) (by omega) dw_L_law_200 rfl ?_
  refine gj_callX (u := md_u om cI cB cS cZ) (ob := om) (tys' := [(cI, .int), (cB, .byte), (cS, .short), (cZ, .boolean)]) (σ := md_0 fl) (σ' := τ1) (r := r) (st := [.int r]) hX [.int (xs 1)] 204 rfl (by rw [← e2]; exact tm_M_built _ (md_0 fl) ((xs 1))) (fun U h => h) hy_M_built tw_1147 tw_1144 tw_1145 tw_1146 tw_79 ⟨0, 9, (tf_9, 73), rfl, (md_O om (md_0 fl) 0).2, gf_wo 0 (show 0 < 1 by decide)⟩ ⟨(Nat.le_of_ble_eq_true rfl), (Nat.le_of_ble_eq_true rfl)⟩ (Nat.le_of_ble_eq_true rfl) (Nat.le_of_ble_eq_true rfl) (Nat.le_of_ble_eq_true rfl) dw_L_law_201 rfl rfl ?_
  refine gj_icmp_eq hX 854 207 dw_L_law_204 (by decide) rfl (fun _ => ?_) (fun h => absurd rfl h)
  exact hE σ1 τ1
set_option maxRecDepth 100000 in
set_option maxHeartbeats 4000000 in
theorem lc_3 {D : va_G} {cI cB cS cZ : ClassId} {X : gx_X} {Qq : State → Prop} {ob om : Nat → Nat} {fl : Nat → Int32} {b L : Nat} {xs : Nat → Int32} (hX : gj_K (D, tq_cl, [(cI, .int), (cB, .byte), (cS, .short), (cZ, .boolean)]) X code "TypeLoomLaw" 4 11 460 600000 7302250) (hB : va_X b L xs X.1.2.2.2.2.1 X.1.2.2.2.2.1.heap ∧ b < X.1.2.2.2.2.1.heap.size ∧ ¬ X.2.1 b) (hL : L = 7) (hE : ∀ σ τ, gj_G (D, tq_cl, [(cI, .int), (cB, .byte), (cS, .short), (cZ, .boolean)]) X Qq (gf_w (tc_u ob cI) ob σ ++ gf_w (md_u om cI cB cS cZ) om τ) 155 1132377 854 [(3, .int 0), (2, .ref (om 0)), (1, .ref (ob 0)), (0, .ref b)] []) : gj_G (D, tq_cl, [(cI, .int), (cB, .byte), (cS, .short), (cZ, .boolean)]) X Qq (gf_w (tc_u ob cI) ob tc_0 ++ gf_w (md_u om cI cB cS cZ) om (md_0 fl)) 155 1132377 209 [(3, .int 0), (2, .ref (om 0)), (1, .ref (ob 0)), (0, .ref b)] [] := by
  refine gj_aload_n hX 2 210 dw_L_law_209 rfl rfl rfl ?_
  refine gj_aload_n hX 3 211 dw_L_law_210 rfl rfl rfl ?_
  refine gj_iload_n hX 0 212 dw_L_law_211 rfl rfl rfl ?_
  refine gj_iconst hX 1 213 dw_L_law_212 (by decide) rfl ?_
  refine gj_iadd hX (nI 1) 214 (by decide) dw_L_law_213 rfl ?_
  refine gj_sld hX 1 215 hB rfl (by omega) (by omega) dw_L_law_214 rfl ?_
  refine gj_if_eq hX 222 218 dw_L_law_215 (by decide) rfl (fun hc => ?_) (fun hc => ?_)
  · refine gj_iconst hX 0 223 dw_L_law_222 (by decide) rfl ?_
    obtain ⟨r, σ1, τ1, e1, e2⟩ := pr_record fl (0) (by decide)
    refine gj_swap ?_
    refine gj_callX (u := tc_u ob cI) (ob := ob) (tys' := [(cI, .int)]) (σ := tc_0) (σ' := σ1) (r := r) (st := []) hX [.int 0] 226 rfl (by rw [← e1]; exact tm_T_record _ tc_0 (0)) (fun U h => h.sub [0] rfl) hy_T_record tw_572 tw_569 tw_570 tw_571 tw_70 ⟨0, 0, (tf_0, 8), rfl, (tc_O ob tc_0 0).2, gf_wo 0 (show 0 < 55 by decide)⟩ ⟨(Nat.le_of_ble_eq_true rfl), (Nat.le_of_ble_eq_true rfl)⟩ (Nat.le_of_ble_eq_true rfl) (Nat.le_of_ble_eq_true rfl) (Nat.le_of_ble_eq_true rfl) dw_L_law_223 rfl rfl ?_
    refine gj_swap ?_
    refine gj_aload_n hX 1 227 dw_L_law_226 rfl rfl rfl ?_
    refine gj_aload_n hX 3 228 dw_L_law_227 rfl rfl rfl ?_
    refine gj_iload_n hX 0 229 dw_L_law_228 rfl rfl rfl ?_
    refine gj_iconst hX 1 230 dw_L_law_229 (by decide) rfl ?_
    refine gj_iadd hX (nI 1) 231 (by decide) dw_L_law_230 rfl ?_
    refine gj_sld hX 1 232 hB rfl (by omega) (by omega) dw_L_law_231 rfl ?_
    refine gj_if_eq hX 239 235 dw_L_law_232 (by decide) rfl (fun _ => ?_) (fun h => absurd hc h)
    refine gj_iconst hX 0 240 dw_L_law_239 (by decide) rfl ?_
    refine gj_callX (u := md_u om cI cB cS cZ) (ob := om) (tys' := [(cI, .int), (cB, .byte), (cS, .short), (cZ, .boolean)]) (σ := md_0 fl) (σ' := τ1) (r := r) (st := [.int r]) hX [.int 0] 243 rfl (by rw [← e2]; exact tm_M_record _ (md_0 fl) (0)) (fun U h => h) hy_M_record tw_1163 tw_1160 tw_1161 tw_1162 tw_79 ⟨0, 9, (tf_9, 73), rfl, (md_O om (md_0 fl) 0).2, gf_wo 0 (show 0 < 1 by decide)⟩ ⟨(Nat.le_of_ble_eq_true rfl), (Nat.le_of_ble_eq_true rfl)⟩ (Nat.le_of_ble_eq_true rfl) (Nat.le_of_ble_eq_true rfl) (Nat.le_of_ble_eq_true rfl) dw_L_law_240 rfl rfl ?_
    refine gj_icmp_eq hX 854 246 dw_L_law_243 (by decide) rfl (fun _ => ?_) (fun h => absurd rfl h)
    exact hE σ1 τ1
  · refine gj_iconst hX 1 219 dw_L_law_218 (by decide) rfl ?_
    refine gj_goto hX 223 dw_L_law_219 (by decide) ?_
    obtain ⟨r, σ1, τ1, e1, e2⟩ := pr_record fl (1) (by decide)
    refine gj_swap ?_
    refine gj_callX (u := tc_u ob cI) (ob := ob) (tys' := [(cI, .int)]) (σ := tc_0) (σ' := σ1) (r := r) (st := []) hX [.int 1] 226 rfl (by rw [← e1]; exact tm_T_record _ tc_0 (1)) (fun U h => h.sub [0] rfl) hy_T_record tw_572 tw_569 tw_570 tw_571 tw_70 ⟨0, 0, (tf_0, 8), rfl, (tc_O ob tc_0 0).2, gf_wo 0 (show 0 < 55 by decide)⟩ ⟨(Nat.le_of_ble_eq_true rfl), (Nat.le_of_ble_eq_true rfl)⟩ (Nat.le_of_ble_eq_true rfl) (Nat.le_of_ble_eq_true rfl) (Nat.le_of_ble_eq_true rfl) dw_L_law_223 rfl rfl ?_
    refine gj_swap ?_
    refine gj_aload_n hX 1 227 dw_L_law_226 rfl rfl rfl ?_
    refine gj_aload_n hX 3 228 dw_L_law_227 rfl rfl rfl ?_
    refine gj_iload_n hX 0 229 dw_L_law_228 rfl rfl rfl ?_
    refine gj_iconst hX 1 230 dw_L_law_229 (by decide) rfl ?_
    refine gj_iadd hX (nI 1) 231 (by decide) dw_L_law_230 rfl ?_
    refine gj_sld hX 1 232 hB rfl (by omega) (by omega) dw_L_law_231 rfl ?_
    refine gj_if_eq hX 239 235 dw_L_law_232 (by decide) rfl (fun h => absurd h hc) (fun _ => ?_)
    refine gj_iconst hX 1 236 dw_L_law_235 (by decide) rfl ?_
    refine gj_goto hX 240 dw_L_law_236 (by decide) ?_
    refine gj_callX (u := md_u om cI cB cS cZ) (ob := om) (tys' := [(cI, .int), (cB, .byte), (cS, .short), (cZ, .boolean)]) (σ := md_0 fl) (σ' := τ1) (r := r) (st := [.int r]) hX [.int 1] 243 rfl (by rw [← e2]; exact tm_M_record _ (md_0 fl) (1)) (fun U h => h) hy_M_record tw_1163 tw_1160 tw_1161 tw_1162 tw_79 ⟨0, 9, (tf_9, 73), rfl, (md_O om (md_0 fl) 0).2, gf_wo 0 (show 0 < 1 by decide)⟩ ⟨(Nat.le_of_ble_eq_true rfl), (Nat.le_of_ble_eq_true rfl)⟩ (Nat.le_of_ble_eq_true rfl) (Nat.le_of_ble_eq_true rfl) (Nat.le_of_ble_eq_true rfl) dw_L_law_240 rfl rfl ?_
    refine gj_icmp_eq hX 854 246 dw_L_law_243 (by decide) rfl (fun _ => ?_) (fun h => absurd rfl h)
    exact hE σ1 τ1
set_option maxRecDepth 100000 in
set_option maxHeartbeats 4000000 in
theorem lc_4 {D : va_G} {cI cB cS cZ : ClassId} {X : gx_X} {Qq : State → Prop} {ob om : Nat → Nat} {fl : Nat → Int32} {b L : Nat} {xs : Nat → Int32} (hX : gj_K (D, tq_cl, [(cI, .int), (cB, .byte), (cS, .short), (cZ, .boolean)]) X code "TypeLoomLaw" 4 11 460 600000 7302250) (hB : va_X b L xs X.1.2.2.2.2.1 X.1.2.2.2.2.1.heap ∧ b < X.1.2.2.2.2.1.heap.size ∧ ¬ X.2.1 b) (hL : L = 7) (hE : ∀ σ τ, gj_G (D, tq_cl, [(cI, .int), (cB, .byte), (cS, .short), (cZ, .boolean)]) X Qq (gf_w (tc_u ob cI) ob σ ++ gf_w (md_u om cI cB cS cZ) om τ) 155 1132377 854 [(3, .int 0), (2, .ref (om 0)), (1, .ref (ob 0)), (0, .ref b)] []) : gj_G (D, tq_cl, [(cI, .int), (cB, .byte), (cS, .short), (cZ, .boolean)]) X Qq (gf_w (tc_u ob cI) ob tc_0 ++ gf_w (md_u om cI cB cS cZ) om (md_0 fl)) 155 1132377 248 [(3, .int 0), (2, .ref (om 0)), (1, .ref (ob 0)), (0, .ref b)] [] := by
  refine gj_aload_n hX 2 249 dw_L_law_248 rfl rfl rfl ?_
  refine gj_aload_n hX 3 250 dw_L_law_249 rfl rfl rfl ?_
  refine gj_iload_n hX 0 251 dw_L_law_250 rfl rfl rfl ?_
  refine gj_iconst hX 1 252 dw_L_law_251 (by decide) rfl ?_
  refine gj_iadd hX (nI 1) 253 (by decide) dw_L_law_252 rfl ?_
  refine gj_sld hX 1 254 hB rfl (by omega) (by omega) dw_L_law_253 rfl ?_
  refine gj_aload_n hX 3 255 dw_L_law_254 rfl rfl rfl ?_
  refine gj_iload_n hX 0 256 dw_L_law_255 rfl rfl rfl ?_
  refine gj_iconst hX 2 257 dw_L_law_256 (by decide) rfl ?_
  refine gj_iadd hX (nI 2) 258 (by decide) dw_L_law_257 rfl ?_
  refine gj_sld hX 2 259 hB rfl (by omega) (by omega) dw_L_law_258 rfl ?_
  obtain ⟨r, σ1, τ1, e1, e2⟩ := pr_function fl ((xs 1)) ((xs 2))
  refine gj_swap ?_
  refine gj_callX (u := tc_u ob cI) (ob := ob) (tys' := [(cI, .int)]) (σ := tc_0) (σ' := σ1) (r := r) (st := []) hX [.int (xs 1), .int (xs 2)] 262 rfl (by rw [← e1]; exact tm_T_function _ tc_0 ((xs 1)) ((xs 2))) (fun U h => h.sub [0] rfl) hy_T_function tw_577 tw_574 tw_575 tw_576 tw_70 ⟨0, 0, (tf_0, 8), rfl, (tc_O ob tc_0 0).2, gf_wo 0 (show 0 < 55 by decide)⟩ ⟨(Nat.le_of_ble_eq_true rfl), (Nat.le_of_ble_eq_true rfl)⟩ (Nat.le_of_ble_eq_true rfl) (Nat.le_of_ble_eq_true rfl) (Nat.le_of_ble_eq_true rfl) dw_L_law_259 rfl rfl ?_
  refine gj_swap ?_
  refine gj_aload_n hX 1 263 dw_L_law_262 rfl rfl rfl ?_
  refine gj_aload_n hX 3 264 dw_L_law_263 rfl rfl rfl ?_
  refine gj_iload_n hX 0 265 dw_L_law_264 rfl rfl rfl ?_
  refine gj_iconst hX 1 266 dw_L_law_265 (by decide) rfl ?_
  refine gj_iadd hX (nI 1) 267 (by decide) dw_L_law_266 rfl ?_
  refine gj_sld hX 1 268 hB rfl (by omega) (by omega) dw_L_law_267 rfl ?_
  refine gj_aload_n hX 3 269 dw_L_law_268 rfl rfl rfl ?_
  refine gj_iload_n hX 0 270 dw_L_law_269 rfl rfl rfl ?_
  refine gj_iconst hX 2 271 dw_L_law_270 (by decide) rfl ?_
  refine gj_iadd hX (nI 2) 272 (by decide) dw_L_law_271 rfl ?_
  refine gj_sld hX 2 273 hB rfl (by omega) (by omega) dw_L_law_272 rfl ?_
  refine gj_callX (u := md_u om cI cB cS cZ) (ob := om) (tys' := [(cI, .int), (cB, .byte), (cS, .short), (cZ, .boolean)]) (σ := md_0 fl) (σ' := τ1) (r := r) (st := [.int r]) hX [.int (xs 1), .int (xs 2)] 276 rfl (by rw [← e2]; exact tm_M_function _ (md_0 fl) ((xs 1)) ((xs 2))) (fun U h => h) hy_M_function tw_1171 tw_1168 tw_1169 tw_1170 tw_79 ⟨0, 9, (tf_9, 73), rfl, (md_O om (md_0 fl) 0).2, gf_wo 0 (show 0 < 1 by decide)⟩ ⟨(Nat.le_of_ble_eq_true rfl), (Nat.le_of_ble_eq_true rfl)⟩ (Nat.le_of_ble_eq_true rfl) (Nat.le_of_ble_eq_true rfl) (Nat.le_of_ble_eq_true rfl) dw_L_law_273 rfl rfl ?_
  refine gj_icmp_eq hX 854 279 dw_L_law_276 (by decide) rfl (fun _ => ?_) (fun h => absurd rfl h)
  exact hE σ1 τ1
set_option maxRecDepth 100000 in
set_option maxHeartbeats 4000000 in
theorem lc_5 {D : va_G} {cI cB cS cZ : ClassId} {X : gx_X} {Qq : State → Prop} {ob om : Nat → Nat} {fl : Nat → Int32} {b L : Nat} {xs : Nat → Int32} (hX : gj_K (D, tq_cl, [(cI, .int), (cB, .byte), (cS, .short), (cZ, .boolean)]) X code "TypeLoomLaw" 4 11 460 600000 7302250) (hB : va_X b L xs X.1.2.2.2.2.1 X.1.2.2.2.2.1.heap ∧ b < X.1.2.2.2.2.1.heap.size ∧ ¬ X.2.1 b) (hL : L = 7) (hE : ∀ σ τ, gj_G (D, tq_cl, [(cI, .int), (cB, .byte), (cS, .short), (cZ, .boolean)]) X Qq (gf_w (tc_u ob cI) ob σ ++ gf_w (md_u om cI cB cS cZ) om τ) 155 1132377 854 [(3, .int 0), (2, .ref (om 0)), (1, .ref (ob 0)), (0, .ref b)] []) : gj_G (D, tq_cl, [(cI, .int), (cB, .byte), (cS, .short), (cZ, .boolean)]) X Qq (gf_w (tc_u ob cI) ob tc_0 ++ gf_w (md_u om cI cB cS cZ) om (md_0 fl)) 155 1132377 281 [(3, .int 0), (2, .ref (om 0)), (1, .ref (ob 0)), (0, .ref b)] [] := by
  refine gj_aload_n hX 2 282 dw_L_law_281 rfl rfl rfl ?_
  refine gj_aload_n hX 3 283 dw_L_law_282 rfl rfl rfl ?_
  refine gj_iload_n hX 0 284 dw_L_law_283 rfl rfl rfl ?_
  refine gj_iconst hX 1 285 dw_L_law_284 (by decide) rfl ?_
  refine gj_iadd hX (nI 1) 286 (by decide) dw_L_law_285 rfl ?_
  refine gj_sld hX 1 287 hB rfl (by omega) (by omega) dw_L_law_286 rfl ?_
  refine gj_if_eq hX 294 290 dw_L_law_287 (by decide) rfl (fun hc => ?_) (fun hc => ?_)
  · refine gj_iconst hX 0 295 dw_L_law_294 (by decide) rfl ?_
    refine gj_aload_n hX 3 296 dw_L_law_295 rfl rfl rfl ?_
    refine gj_iload_n hX 0 297 dw_L_law_296 rfl rfl rfl ?_
    refine gj_iconst hX 2 298 dw_L_law_297 (by decide) rfl ?_
    refine gj_iadd hX (nI 2) 299 (by decide) dw_L_law_298 rfl ?_
    refine gj_sld hX 2 300 hB rfl (by omega) (by omega) dw_L_law_299 rfl ?_
    obtain ⟨r, σ1, τ1, e1, e2⟩ := pr_variable fl (0) ((xs 2)) (by decide)
    refine gj_swap ?_
    refine gj_callX (u := tc_u ob cI) (ob := ob) (tys' := [(cI, .int)]) (σ := tc_0) (σ' := σ1) (r := r) (st := []) hX [.int 0, .int (xs 2)] 303 rfl (by rw [← e1]; exact tm_T_variable _ tc_0 (0) ((xs 2))) (fun U h => h.sub [0] rfl) hy_T_variable tw_581 tw_578 tw_579 tw_580 tw_70 ⟨0, 0, (tf_0, 8), rfl, (tc_O ob tc_0 0).2, gf_wo 0 (show 0 < 55 by decide)⟩ ⟨(Nat.le_of_ble_eq_true rfl), (Nat.le_of_ble_eq_true rfl)⟩ (Nat.le_of_ble_eq_true rfl) (Nat.le_of_ble_eq_true rfl) (Nat.le_of_ble_eq_true rfl) dw_L_law_300 rfl rfl ?_
    refine gj_swap ?_
    refine gj_aload_n hX 1 304 dw_L_law_303 rfl rfl rfl ?_
    refine gj_aload_n hX 3 305 dw_L_law_304 rfl rfl rfl ?_
    refine gj_iload_n hX 0 306 dw_L_law_305 rfl rfl rfl ?_
    refine gj_iconst hX 1 307 dw_L_law_306 (by decide) rfl ?_
    refine gj_iadd hX (nI 1) 308 (by decide) dw_L_law_307 rfl ?_
    refine gj_sld hX 1 309 hB rfl (by omega) (by omega) dw_L_law_308 rfl ?_
    refine gj_if_eq hX 316 312 dw_L_law_309 (by decide) rfl (fun _ => ?_) (fun h => absurd hc h)
    refine gj_iconst hX 0 317 dw_L_law_316 (by decide) rfl ?_
    refine gj_aload_n hX 3 318 dw_L_law_317 rfl rfl rfl ?_
    refine gj_iload_n hX 0 319 dw_L_law_318 rfl rfl rfl ?_
    refine gj_iconst hX 2 320 dw_L_law_319 (by decide) rfl ?_
    refine gj_iadd hX (nI 2) 321 (by decide) dw_L_law_320 rfl ?_
    refine gj_sld hX 2 322 hB rfl (by omega) (by omega) dw_L_law_321 rfl ?_
    refine gj_callX (u := md_u om cI cB cS cZ) (ob := om) (tys' := [(cI, .int), (cB, .byte), (cS, .short), (cZ, .boolean)]) (σ := md_0 fl) (σ' := τ1) (r := r) (st := [.int r]) hX [.int 0, .int (xs 2)] 325 rfl (by rw [← e2]; exact tm_M_variable _ (md_0 fl) (0) ((xs 2))) (fun U h => h) hy_M_variable tw_1175 tw_1172 tw_1173 tw_1174 tw_79 ⟨0, 9, (tf_9, 73), rfl, (md_O om (md_0 fl) 0).2, gf_wo 0 (show 0 < 1 by decide)⟩ ⟨(Nat.le_of_ble_eq_true rfl), (Nat.le_of_ble_eq_true rfl)⟩ (Nat.le_of_ble_eq_true rfl) (Nat.le_of_ble_eq_true rfl) (Nat.le_of_ble_eq_true rfl) dw_L_law_322 rfl rfl ?_
    refine gj_icmp_eq hX 854 328 dw_L_law_325 (by decide) rfl (fun _ => ?_) (fun h => absurd rfl h)
    exact hE σ1 τ1
  · refine gj_iconst hX 1 291 dw_L_law_290 (by decide) rfl ?_
    refine gj_goto hX 295 dw_L_law_291 (by decide) ?_
    refine gj_aload_n hX 3 296 dw_L_law_295 rfl rfl rfl ?_
    refine gj_iload_n hX 0 297 dw_L_law_296 rfl rfl rfl ?_
    refine gj_iconst hX 2 298 dw_L_law_297 (by decide) rfl ?_
    refine gj_iadd hX (nI 2) 299 (by decide) dw_L_law_298 rfl ?_
    refine gj_sld hX 2 300 hB rfl (by omega) (by omega) dw_L_law_299 rfl ?_
    obtain ⟨r, σ1, τ1, e1, e2⟩ := pr_variable fl (1) ((xs 2)) (by decide)
    refine gj_swap ?_
    refine gj_callX (u := tc_u ob cI) (ob := ob) (tys' := [(cI, .int)]) (σ := tc_0) (σ' := σ1) (r := r) (st := []) hX [.int 1, .int (xs 2)] 303 rfl (by rw [← e1]; exact tm_T_variable _ tc_0 (1) ((xs 2))) (fun U h => h.sub [0] rfl) hy_T_variable tw_581 tw_578 tw_579 tw_580 tw_70 ⟨0, 0, (tf_0, 8), rfl, (tc_O ob tc_0 0).2, gf_wo 0 (show 0 < 55 by decide)⟩ ⟨(Nat.le_of_ble_eq_true rfl), (Nat.le_of_ble_eq_true rfl)⟩ (Nat.le_of_ble_eq_true rfl) (Nat.le_of_ble_eq_true rfl) (Nat.le_of_ble_eq_true rfl) dw_L_law_300 rfl rfl ?_
    refine gj_swap ?_
    refine gj_aload_n hX 1 304 dw_L_law_303 rfl rfl rfl ?_
    refine gj_aload_n hX 3 305 dw_L_law_304 rfl rfl rfl ?_
    refine gj_iload_n hX 0 306 dw_L_law_305 rfl rfl rfl ?_
    refine gj_iconst hX 1 307 dw_L_law_306 (by decide) rfl ?_
    refine gj_iadd hX (nI 1) 308 (by decide) dw_L_law_307 rfl ?_
    refine gj_sld hX 1 309 hB rfl (by omega) (by omega) dw_L_law_308 rfl ?_
    refine gj_if_eq hX 316 312 dw_L_law_309 (by decide) rfl (fun h => absurd h hc) (fun _ => ?_)
    refine gj_iconst hX 1 313 dw_L_law_312 (by decide) rfl ?_
    refine gj_goto hX 317 dw_L_law_313 (by decide) ?_
    refine gj_aload_n hX 3 318 dw_L_law_317 rfl rfl rfl ?_
    refine gj_iload_n hX 0 319 dw_L_law_318 rfl rfl rfl ?_
    refine gj_iconst hX 2 320 dw_L_law_319 (by decide) rfl ?_
    refine gj_iadd hX (nI 2) 321 (by decide) dw_L_law_320 rfl ?_
    refine gj_sld hX 2 322 hB rfl (by omega) (by omega) dw_L_law_321 rfl ?_
    refine gj_callX (u := md_u om cI cB cS cZ) (ob := om) (tys' := [(cI, .int), (cB, .byte), (cS, .short), (cZ, .boolean)]) (σ := md_0 fl) (σ' := τ1) (r := r) (st := [.int r]) hX [.int 1, .int (xs 2)] 325 rfl (by rw [← e2]; exact tm_M_variable _ (md_0 fl) (1) ((xs 2))) (fun U h => h) hy_M_variable tw_1175 tw_1172 tw_1173 tw_1174 tw_79 ⟨0, 9, (tf_9, 73), rfl, (md_O om (md_0 fl) 0).2, gf_wo 0 (show 0 < 1 by decide)⟩ ⟨(Nat.le_of_ble_eq_true rfl), (Nat.le_of_ble_eq_true rfl)⟩ (Nat.le_of_ble_eq_true rfl) (Nat.le_of_ble_eq_true rfl) (Nat.le_of_ble_eq_true rfl) dw_L_law_322 rfl rfl ?_
    refine gj_icmp_eq hX 854 328 dw_L_law_325 (by decide) rfl (fun _ => ?_) (fun h => absurd rfl h)
    exact hE σ1 τ1
set_option maxRecDepth 100000 in
set_option maxHeartbeats 4000000 in
theorem lc_6 {D : va_G} {cI cB cS cZ : ClassId} {X : gx_X} {Qq : State → Prop} {ob om : Nat → Nat} {fl : Nat → Int32} {b L : Nat} {xs : Nat → Int32} (hX : gj_K (D, tq_cl, [(cI, .int), (cB, .byte), (cS, .short), (cZ, .boolean)]) X code "TypeLoomLaw" 4 11 460 600000 7302250) (hB : va_X b L xs X.1.2.2.2.2.1 X.1.2.2.2.2.1.heap ∧ b < X.1.2.2.2.2.1.heap.size ∧ ¬ X.2.1 b) (hL : L = 7) (hE : ∀ σ τ, gj_G (D, tq_cl, [(cI, .int), (cB, .byte), (cS, .short), (cZ, .boolean)]) X Qq (gf_w (tc_u ob cI) ob σ ++ gf_w (md_u om cI cB cS cZ) om τ) 155 1132377 854 [(3, .int 0), (2, .ref (om 0)), (1, .ref (ob 0)), (0, .ref b)] []) : gj_G (D, tq_cl, [(cI, .int), (cB, .byte), (cS, .short), (cZ, .boolean)]) X Qq (gf_w (tc_u ob cI) ob tc_0 ++ gf_w (md_u om cI cB cS cZ) om (md_0 fl)) 155 1132377 330 [(3, .int 0), (2, .ref (om 0)), (1, .ref (ob 0)), (0, .ref b)] [] := by
  refine gj_aload_n hX 2 331 dw_L_law_330 rfl rfl rfl ?_
  refine gj_aload_n hX 3 332 dw_L_law_331 rfl rfl rfl ?_
  refine gj_iload_n hX 0 333 dw_L_law_332 rfl rfl rfl ?_
  refine gj_iconst hX 1 334 dw_L_law_333 (by decide) rfl ?_
  refine gj_iadd hX (nI 1) 335 (by decide) dw_L_law_334 rfl ?_
  refine gj_sld hX 1 336 hB rfl (by omega) (by omega) dw_L_law_335 rfl ?_
  refine gj_if_eq hX 343 339 dw_L_law_336 (by decide) rfl (fun hc => ?_) (fun hc => ?_)
  · refine gj_iconst hX 0 344 dw_L_law_343 (by decide) rfl ?_
    obtain ⟨r, σ1, τ1, e1, e2⟩ := pr_rigid fl (0) (by decide)
    refine gj_swap ?_
    refine gj_callX (u := tc_u ob cI) (ob := ob) (tys' := [(cI, .int)]) (σ := tc_0) (σ' := σ1) (r := r) (st := []) hX [.int 0] 347 rfl (by rw [← e1]; exact tm_T_rigid _ tc_0 (0)) (fun U h => h.sub [0] rfl) hy_T_rigid tw_594 tw_591 tw_592 tw_593 tw_70 ⟨0, 0, (tf_0, 8), rfl, (tc_O ob tc_0 0).2, gf_wo 0 (show 0 < 55 by decide)⟩ ⟨(Nat.le_of_ble_eq_true rfl), (Nat.le_of_ble_eq_true rfl)⟩ (Nat.le_of_ble_eq_true rfl) (Nat.le_of_ble_eq_true rfl) (Nat.le_of_ble_eq_true rfl) dw_L_law_344 rfl rfl ?_
    refine gj_swap ?_
    refine gj_aload_n hX 1 348 dw_L_law_347 rfl rfl rfl ?_
    refine gj_aload_n hX 3 349 dw_L_law_348 rfl rfl rfl ?_
    refine gj_iload_n hX 0 350 dw_L_law_349 rfl rfl rfl ?_
    refine gj_iconst hX 1 351 dw_L_law_350 (by decide) rfl ?_
    refine gj_iadd hX (nI 1) 352 (by decide) dw_L_law_351 rfl ?_
    refine gj_sld hX 1 353 hB rfl (by omega) (by omega) dw_L_law_352 rfl ?_
    refine gj_if_eq hX 360 356 dw_L_law_353 (by decide) rfl (fun _ => ?_) (fun h => absurd hc h)
    refine gj_iconst hX 0 361 dw_L_law_360 (by decide) rfl ?_
    refine gj_callX (u := md_u om cI cB cS cZ) (ob := om) (tys' := [(cI, .int), (cB, .byte), (cS, .short), (cZ, .boolean)]) (σ := md_0 fl) (σ' := τ1) (r := r) (st := [.int r]) hX [.int 0] 364 rfl (by rw [← e2]; exact tm_M_rigid _ (md_0 fl) (0)) (fun U h => h) hy_M_rigid tw_1183 tw_1180 tw_1181 tw_1182 tw_79 ⟨0, 9, (tf_9, 73), rfl, (md_O om (md_0 fl) 0).2, gf_wo 0 (show 0 < 1 by decide)⟩ ⟨(Nat.le_of_ble_eq_true rfl), (Nat.le_of_ble_eq_true rfl)⟩ (Nat.le_of_ble_eq_true rfl) (Nat.le_of_ble_eq_true rfl) (Nat.le_of_ble_eq_true rfl) dw_L_law_361 rfl rfl ?_
    refine gj_icmp_eq hX 854 367 dw_L_law_364 (by decide) rfl (fun _ => ?_) (fun h => absurd rfl h)
    exact hE σ1 τ1
  · refine gj_iconst hX 1 340 dw_L_law_339 (by decide) rfl ?_
    refine gj_goto hX 344 dw_L_law_340 (by decide) ?_
    obtain ⟨r, σ1, τ1, e1, e2⟩ := pr_rigid fl (1) (by decide)
    refine gj_swap ?_
    refine gj_callX (u := tc_u ob cI) (ob := ob) (tys' := [(cI, .int)]) (σ := tc_0) (σ' := σ1) (r := r) (st := []) hX [.int 1] 347 rfl (by rw [← e1]; exact tm_T_rigid _ tc_0 (1)) (fun U h => h.sub [0] rfl) hy_T_rigid tw_594 tw_591 tw_592 tw_593 tw_70 ⟨0, 0, (tf_0, 8), rfl, (tc_O ob tc_0 0).2, gf_wo 0 (show 0 < 55 by decide)⟩ ⟨(Nat.le_of_ble_eq_true rfl), (Nat.le_of_ble_eq_true rfl)⟩ (Nat.le_of_ble_eq_true rfl) (Nat.le_of_ble_eq_true rfl) (Nat.le_of_ble_eq_true rfl) dw_L_law_344 rfl rfl ?_
    refine gj_swap ?_
    refine gj_aload_n hX 1 348 dw_L_law_347 rfl rfl rfl ?_
    refine gj_aload_n hX 3 349 dw_L_law_348 rfl rfl rfl ?_
    refine gj_iload_n hX 0 350 dw_L_law_349 rfl rfl rfl ?_
    refine gj_iconst hX 1 351 dw_L_law_350 (by decide) rfl ?_
    refine gj_iadd hX (nI 1) 352 (by decide) dw_L_law_351 rfl ?_
    refine gj_sld hX 1 353 hB rfl (by omega) (by omega) dw_L_law_352 rfl ?_
    refine gj_if_eq hX 360 356 dw_L_law_353 (by decide) rfl (fun h => absurd h hc) (fun _ => ?_)
    refine gj_iconst hX 1 357 dw_L_law_356 (by decide) rfl ?_
    refine gj_goto hX 361 dw_L_law_357 (by decide) ?_
    refine gj_callX (u := md_u om cI cB cS cZ) (ob := om) (tys' := [(cI, .int), (cB, .byte), (cS, .short), (cZ, .boolean)]) (σ := md_0 fl) (σ' := τ1) (r := r) (st := [.int r]) hX [.int 1] 364 rfl (by rw [← e2]; exact tm_M_rigid _ (md_0 fl) (1)) (fun U h => h) hy_M_rigid tw_1183 tw_1180 tw_1181 tw_1182 tw_79 ⟨0, 9, (tf_9, 73), rfl, (md_O om (md_0 fl) 0).2, gf_wo 0 (show 0 < 1 by decide)⟩ ⟨(Nat.le_of_ble_eq_true rfl), (Nat.le_of_ble_eq_true rfl)⟩ (Nat.le_of_ble_eq_true rfl) (Nat.le_of_ble_eq_true rfl) (Nat.le_of_ble_eq_true rfl) dw_L_law_361 rfl rfl ?_
    refine gj_icmp_eq hX 854 367 dw_L_law_364 (by decide) rfl (fun _ => ?_) (fun h => absurd rfl h)
    exact hE σ1 τ1
set_option maxRecDepth 100000 in
set_option maxHeartbeats 4000000 in
theorem lc_7 {D : va_G} {cI cB cS cZ : ClassId} {X : gx_X} {Qq : State → Prop} {ob om : Nat → Nat} {fl : Nat → Int32} {b L : Nat} {xs : Nat → Int32} (hX : gj_K (D, tq_cl, [(cI, .int), (cB, .byte), (cS, .short), (cZ, .boolean)]) X code "TypeLoomLaw" 4 11 460 600000 7302250) (hB : va_X b L xs X.1.2.2.2.2.1 X.1.2.2.2.2.1.heap ∧ b < X.1.2.2.2.2.1.heap.size ∧ ¬ X.2.1 b) (hL : L = 7) (hE : ∀ σ τ, gj_G (D, tq_cl, [(cI, .int), (cB, .byte), (cS, .short), (cZ, .boolean)]) X Qq (gf_w (tc_u ob cI) ob σ ++ gf_w (md_u om cI cB cS cZ) om τ) 155 1132377 854 [(3, .int 0), (2, .ref (om 0)), (1, .ref (ob 0)), (0, .ref b)] []) : gj_G (D, tq_cl, [(cI, .int), (cB, .byte), (cS, .short), (cZ, .boolean)]) X Qq (gf_w (tc_u ob cI) ob tc_0 ++ gf_w (md_u om cI cB cS cZ) om (md_0 fl)) 155 1132377 369 [(3, .int 0), (2, .ref (om 0)), (1, .ref (ob 0)), (0, .ref b)] [] := by
  refine gj_aload_n hX 2 370 dw_L_law_369 rfl rfl rfl ?_
  refine gj_aload_n hX 3 371 dw_L_law_370 rfl rfl rfl ?_
  refine gj_iload_n hX 0 372 dw_L_law_371 rfl rfl rfl ?_
  refine gj_iconst hX 1 373 dw_L_law_372 (by decide) rfl ?_
  refine gj_iadd hX (nI 1) 374 (by decide) dw_L_law_373 rfl ?_
  refine gj_sld hX 1 375 hB rfl (by omega) (by omega) dw_L_law_374 rfl ?_
  obtain ⟨r, σ1, τ1, e1, e2⟩ := pr_level fl ((xs 1))
  refine gj_swap ?_
  refine gj_callX (u := tc_u ob cI) (ob := ob) (tys' := [(cI, .int)]) (σ := tc_0) (σ' := σ1) (r := r) (st := []) hX [.int (xs 1)] 378 rfl (by rw [← e1]; exact tm_T_level _ tc_0 ((xs 1))) (fun U h => h.sub [0] rfl) hy_T_level tw_598 tw_595 tw_596 tw_597 tw_70 ⟨0, 0, (tf_0, 8), rfl, (tc_O ob tc_0 0).2, gf_wo 0 (show 0 < 55 by decide)⟩ ⟨(Nat.le_of_ble_eq_true rfl), (Nat.le_of_ble_eq_true rfl)⟩ (Nat.le_of_ble_eq_true rfl) (Nat.le_of_ble_eq_true rfl) (Nat.le_of_ble_eq_true rfl) dw_L_law_375 rfl rfl ?_
  refine gj_swap ?_
  refine gj_aload_n hX 1 379 dw_L_law_378 rfl rfl rfl ?_
  refine gj_aload_n hX 3 380 dw_L_law_379 rfl rfl rfl ?_
  refine gj_iload_n hX 0 381 dw_L_law_380 rfl rfl rfl ?_
  refine gj_iconst hX 1 382 dw_L_law_381 (by decide) rfl ?_
  refine gj_iadd hX (nI 1) 383 (by decide) dw_L_law_382 rfl ?_
  refine gj_sld hX 1 384 hB rfl (by omega) (by omega) dw_L_law_383 rfl ?_
  refine gj_callX (u := md_u om cI cB cS cZ) (ob := om) (tys' := [(cI, .int), (cB, .byte), (cS, .short), (cZ, .boolean)]) (σ := md_0 fl) (σ' := τ1) (r := r) (st := [.int r]) hX [.int (xs 1)] 387 rfl (by rw [← e2]; exact tm_M_level _ (md_0 fl) ((xs 1))) (fun U h => h) hy_M_level tw_1187 tw_1184 tw_1185 tw_1186 tw_79 ⟨0, 9, (tf_9, 73), rfl, (md_O om (md_0 fl) 0).2, gf_wo 0 (show 0 < 1 by decide)⟩ ⟨(Nat.le_of_ble_eq_true rfl), (Nat.le_of_ble_eq_true rfl)⟩ (Nat.le_of_ble_eq_true rfl) (Nat.le_of_ble_eq_true rfl) (Nat.le_of_ble_eq_true rfl) dw_L_law_384 rfl rfl ?_
  refine gj_icmp_eq hX 854 390 dw_L_law_387 (by decide) rfl (fun _ => ?_) (fun h => absurd rfl h)
  exact hE σ1 τ1
set_option maxRecDepth 100000 in
set_option maxHeartbeats 4000000 in
theorem lc_8 {D : va_G} {cI cB cS cZ : ClassId} {X : gx_X} {Qq : State → Prop} {ob om : Nat → Nat} {fl : Nat → Int32} {b L : Nat} {xs : Nat → Int32} (hX : gj_K (D, tq_cl, [(cI, .int), (cB, .byte), (cS, .short), (cZ, .boolean)]) X code "TypeLoomLaw" 4 11 460 600000 7302250) (hB : va_X b L xs X.1.2.2.2.2.1 X.1.2.2.2.2.1.heap ∧ b < X.1.2.2.2.2.1.heap.size ∧ ¬ X.2.1 b) (hL : L = 7) (hE : ∀ σ τ, gj_G (D, tq_cl, [(cI, .int), (cB, .byte), (cS, .short), (cZ, .boolean)]) X Qq (gf_w (tc_u ob cI) ob σ ++ gf_w (md_u om cI cB cS cZ) om τ) 155 1132377 854 [(3, .int 0), (2, .ref (om 0)), (1, .ref (ob 0)), (0, .ref b)] []) : gj_G (D, tq_cl, [(cI, .int), (cB, .byte), (cS, .short), (cZ, .boolean)]) X Qq (gf_w (tc_u ob cI) ob tc_0 ++ gf_w (md_u om cI cB cS cZ) om (md_0 fl)) 155 1132377 392 [(3, .int 0), (2, .ref (om 0)), (1, .ref (ob 0)), (0, .ref b)] [] := by
  refine gj_aload_n hX 2 393 dw_L_law_392 rfl rfl rfl ?_
  refine gj_aload_n hX 3 394 dw_L_law_393 rfl rfl rfl ?_
  refine gj_iload_n hX 0 395 dw_L_law_394 rfl rfl rfl ?_
  refine gj_iconst hX 1 396 dw_L_law_395 (by decide) rfl ?_
  refine gj_iadd hX (nI 1) 397 (by decide) dw_L_law_396 rfl ?_
  refine gj_sld hX 1 398 hB rfl (by omega) (by omega) dw_L_law_397 rfl ?_
  refine gj_aload_n hX 3 399 dw_L_law_398 rfl rfl rfl ?_
  refine gj_iload_n hX 0 400 dw_L_law_399 rfl rfl rfl ?_
  refine gj_iconst hX 2 401 dw_L_law_400 (by decide) rfl ?_
  refine gj_iadd hX (nI 2) 402 (by decide) dw_L_law_401 rfl ?_
  refine gj_sld hX 2 403 hB rfl (by omega) (by omega) dw_L_law_402 rfl ?_
  obtain ⟨r, σ1, τ1, e1, e2⟩ := pr_unify fl ((xs 1)) ((xs 2))
  refine gj_swap ?_
  refine gj_callX (u := tc_u ob cI) (ob := ob) (tys' := [(cI, .int)]) (σ := tc_0) (σ' := σ1) (r := r) (st := []) hX [.int (xs 1), .int (xs 2)] 406 rfl (by rw [← e1]; exact tm_T_unify _ tc_0 ((xs 1)) ((xs 2))) (fun U h => h.sub [0] rfl) hy_T_unify tw_602 tw_599 tw_600 tw_601 tw_70 ⟨0, 0, (tf_0, 8), rfl, (tc_O ob tc_0 0).2, gf_wo 0 (show 0 < 55 by decide)⟩ ⟨(Nat.le_of_ble_eq_true rfl), (Nat.le_of_ble_eq_true rfl)⟩ (Nat.le_of_ble_eq_true rfl) (Nat.le_of_ble_eq_true rfl) (Nat.le_of_ble_eq_true rfl) dw_L_law_403 rfl rfl ?_
  refine gj_swap ?_
  refine gj_aload_n hX 1 407 dw_L_law_406 rfl rfl rfl ?_
  refine gj_aload_n hX 3 408 dw_L_law_407 rfl rfl rfl ?_
  refine gj_iload_n hX 0 409 dw_L_law_408 rfl rfl rfl ?_
  refine gj_iconst hX 1 410 dw_L_law_409 (by decide) rfl ?_
  refine gj_iadd hX (nI 1) 411 (by decide) dw_L_law_410 rfl ?_
  refine gj_sld hX 1 412 hB rfl (by omega) (by omega) dw_L_law_411 rfl ?_
  refine gj_aload_n hX 3 413 dw_L_law_412 rfl rfl rfl ?_
  refine gj_iload_n hX 0 414 dw_L_law_413 rfl rfl rfl ?_
  refine gj_iconst hX 2 415 dw_L_law_414 (by decide) rfl ?_
  refine gj_iadd hX (nI 2) 416 (by decide) dw_L_law_415 rfl ?_
  refine gj_sld hX 2 417 hB rfl (by omega) (by omega) dw_L_law_416 rfl ?_
  refine gj_callX (u := md_u om cI cB cS cZ) (ob := om) (tys' := [(cI, .int), (cB, .byte), (cS, .short), (cZ, .boolean)]) (σ := md_0 fl) (σ' := τ1) (r := r) (st := [.int r]) hX [.int (xs 1), .int (xs 2)] 420 rfl (by rw [← e2]; exact tm_M_unify _ (md_0 fl) ((xs 1)) ((xs 2))) (fun U h => h) hy_M_unify tw_1191 tw_1188 tw_1189 tw_1190 tw_79 ⟨0, 9, (tf_9, 73), rfl, (md_O om (md_0 fl) 0).2, gf_wo 0 (show 0 < 1 by decide)⟩ ⟨(Nat.le_of_ble_eq_true rfl), (Nat.le_of_ble_eq_true rfl)⟩ (Nat.le_of_ble_eq_true rfl) (Nat.le_of_ble_eq_true rfl) (Nat.le_of_ble_eq_true rfl) dw_L_law_417 rfl rfl ?_
  refine gj_icmp_eq hX 854 423 dw_L_law_420 (by decide) rfl (fun _ => ?_) (fun h => absurd rfl h)
  exact hE σ1 τ1
set_option maxRecDepth 100000 in
set_option maxHeartbeats 4000000 in
theorem lc_9 {D : va_G} {cI cB cS cZ : ClassId} {X : gx_X} {Qq : State → Prop} {ob om : Nat → Nat} {fl : Nat → Int32} {b L : Nat} {xs : Nat → Int32} (hX : gj_K (D, tq_cl, [(cI, .int), (cB, .byte), (cS, .short), (cZ, .boolean)]) X code "TypeLoomLaw" 4 11 460 600000 7302250) (hB : va_X b L xs X.1.2.2.2.2.1 X.1.2.2.2.2.1.heap ∧ b < X.1.2.2.2.2.1.heap.size ∧ ¬ X.2.1 b) (hL : L = 7) (hE : ∀ σ τ, gj_G (D, tq_cl, [(cI, .int), (cB, .byte), (cS, .short), (cZ, .boolean)]) X Qq (gf_w (tc_u ob cI) ob σ ++ gf_w (md_u om cI cB cS cZ) om τ) 155 1132377 854 [(3, .int 0), (2, .ref (om 0)), (1, .ref (ob 0)), (0, .ref b)] []) : gj_G (D, tq_cl, [(cI, .int), (cB, .byte), (cS, .short), (cZ, .boolean)]) X Qq (gf_w (tc_u ob cI) ob tc_0 ++ gf_w (md_u om cI cB cS cZ) om (md_0 fl)) 155 1132377 425 [(3, .int 0), (2, .ref (om 0)), (1, .ref (ob 0)), (0, .ref b)] [] := by
  refine gj_aload_n hX 2 426 dw_L_law_425 rfl rfl rfl ?_
  refine gj_aload_n hX 3 427 dw_L_law_426 rfl rfl rfl ?_
  refine gj_iload_n hX 0 428 dw_L_law_427 rfl rfl rfl ?_
  refine gj_iconst hX 1 429 dw_L_law_428 (by decide) rfl ?_
  refine gj_iadd hX (nI 1) 430 (by decide) dw_L_law_429 rfl ?_
  refine gj_sld hX 1 431 hB rfl (by omega) (by omega) dw_L_law_430 rfl ?_
  refine gj_aload_n hX 3 432 dw_L_law_431 rfl rfl rfl ?_
  refine gj_iload_n hX 0 433 dw_L_law_432 rfl rfl rfl ?_
  refine gj_iconst hX 2 434 dw_L_law_433 (by decide) rfl ?_
  refine gj_iadd hX (nI 2) 435 (by decide) dw_L_law_434 rfl ?_
  refine gj_sld hX 2 436 hB rfl (by omega) (by omega) dw_L_law_435 rfl ?_
  refine gj_i2l hX 437 dw_L_law_436 rfl ?_
  refine gj_bipush hX 32 439 dw_L_law_437 (by decide) rfl ?_
  refine gj_lshl hX 440 dw_L_law_439 rfl ?_
  refine gj_aload_n hX 3 441 dw_L_law_440 rfl rfl rfl ?_
  refine gj_iload_n hX 0 442 dw_L_law_441 rfl rfl rfl ?_
  refine gj_iconst hX 3 443 dw_L_law_442 (by decide) rfl ?_
  refine gj_iadd hX (nI 3) 444 (by decide) dw_L_law_443 rfl ?_
  refine gj_sld hX 3 445 hB rfl (by omega) (by omega) dw_L_law_444 rfl ?_
  refine gj_i2l hX 446 dw_L_law_445 rfl ?_
  refine gj_ldc2 hX 4294967295 449 dw_L_law_446 tw_1369 rfl ?_
  refine gj_land hX 450 dw_L_law_449 rfl ?_
  refine gj_lor hX 451 dw_L_law_450 rfl ?_
  refine gj_aload_n hX 3 452 dw_L_law_451 rfl rfl rfl ?_
  refine gj_iload_n hX 0 453 dw_L_law_452 rfl rfl rfl ?_
  refine gj_iconst hX 4 454 dw_L_law_453 (by decide) rfl ?_
  refine gj_iadd hX (nI 4) 455 (by decide) dw_L_law_454 rfl ?_
  refine gj_sld hX 4 456 hB rfl (by omega) (by omega) dw_L_law_455 rfl ?_
  refine gj_aload_n hX 3 457 dw_L_law_456 rfl rfl rfl ?_
  refine gj_iload_n hX 0 458 dw_L_law_457 rfl rfl rfl ?_
  refine gj_iconst hX 5 459 dw_L_law_458 (by decide) rfl ?_
  refine gj_iadd hX (nI 5) 460 (by decide) dw_L_law_459 rfl ?_
  refine gj_sld hX 5 461 hB rfl (by omega) (by omega) dw_L_law_460 rfl ?_
  refine gj_i2l hX 462 dw_L_law_461 rfl ?_
  refine gj_bipush hX 32 464 dw_L_law_462 (by decide) rfl ?_
  refine gj_lshl hX 465 dw_L_law_464 rfl ?_
  refine gj_aload_n hX 3 466 dw_L_law_465 rfl rfl rfl ?_
  refine gj_iload_n hX 0 467 dw_L_law_466 rfl rfl rfl ?_
  refine gj_bipush hX 6 469 dw_L_law_467 (by decide) rfl ?_
  refine gj_iadd hX (nI 6) 470 (by decide) dw_L_law_469 rfl ?_
  refine gj_sld hX 6 471 hB rfl (by omega) (by omega) dw_L_law_470 rfl ?_
  refine gj_i2l hX 472 dw_L_law_471 rfl ?_
  refine gj_ldc2 hX 4294967295 475 dw_L_law_472 tw_1369 rfl ?_
  refine gj_land hX 476 dw_L_law_475 rfl ?_
  refine gj_lor hX 477 dw_L_law_476 rfl ?_
  obtain ⟨r, σ1, τ1, e1, e2⟩ := pr_same fl ((xs 1)) ((((Int32.toInt64 (xs 2)) <<< (Int32.toInt64 32 &&& 63)) ||| ((Int32.toInt64 (xs 3)) &&& 4294967295))) ((xs 4)) ((((Int32.toInt64 (xs 5)) <<< (Int32.toInt64 32 &&& 63)) ||| ((Int32.toInt64 (xs 6)) &&& 4294967295)))
  refine gj_swap ?_
  refine gj_callX (u := tc_u ob cI) (ob := ob) (tys' := [(cI, .int)]) (σ := tc_0) (σ' := σ1) (r := r) (st := []) hX [.int (xs 1), .long (((Int32.toInt64 (xs 2)) <<< (Int32.toInt64 32 &&& 63)) ||| ((Int32.toInt64 (xs 3)) &&& 4294967295)), .int (xs 4), .long (((Int32.toInt64 (xs 5)) <<< (Int32.toInt64 32 &&& 63)) ||| ((Int32.toInt64 (xs 6)) &&& 4294967295))] 480 rfl (by rw [← e1]; exact tm_T_same _ tc_0 ((xs 1)) ((((Int32.toInt64 (xs 2)) <<< (Int32.toInt64 32 &&& 63)) ||| ((Int32.toInt64 (xs 3)) &&& 4294967295))) ((xs 4)) ((((Int32.toInt64 (xs 5)) <<< (Int32.toInt64 32 &&& 63)) ||| ((Int32.toInt64 (xs 6)) &&& 4294967295)))) (fun U h => h.sub [0] rfl) hy_T_same tw_737 tw_734 tw_735 tw_736 tw_70 ⟨0, 0, (tf_0, 8), rfl, (tc_O ob tc_0 0).2, gf_wo 0 (show 0 < 55 by decide)⟩ ⟨(Nat.le_of_ble_eq_true rfl), (Nat.le_of_ble_eq_true rfl)⟩ (Nat.le_of_ble_eq_true rfl) (Nat.le_of_ble_eq_true rfl) (Nat.le_of_ble_eq_true rfl) dw_L_law_477 rfl rfl ?_
  refine gj_swap ?_
  refine gj_aload_n hX 1 481 dw_L_law_480 rfl rfl rfl ?_
  refine gj_aload_n hX 3 482 dw_L_law_481 rfl rfl rfl ?_
  refine gj_iload_n hX 0 483 dw_L_law_482 rfl rfl rfl ?_
  refine gj_iconst hX 1 484 dw_L_law_483 (by decide) rfl ?_
  refine gj_iadd hX (nI 1) 485 (by decide) dw_L_law_484 rfl ?_
  refine gj_sld hX 1 486 hB rfl (by omega) (by omega) dw_L_law_485 rfl ?_
  refine gj_aload_n hX 3 487 dw_L_law_486 rfl rfl rfl ?_
  refine gj_iload_n hX 0 488 dw_L_law_487 rfl rfl rfl ?_
  refine gj_iconst hX 2 489 dw_L_law_488 (by decide) rfl ?_
  refine gj_iadd hX (nI 2) 490 (by decide) dw_L_law_489 rfl ?_
  refine gj_sld hX 2 491 hB rfl (by omega) (by omega) dw_L_law_490 rfl ?_
  refine gj_i2l hX 492 dw_L_law_491 rfl ?_
  refine gj_bipush hX 32 494 dw_L_law_492 (by decide) rfl ?_
  refine gj_lshl hX 495 dw_L_law_494 rfl ?_
  refine gj_aload_n hX 3 496 dw_L_law_495 rfl rfl rfl ?_
  refine gj_iload_n hX 0 497 dw_L_law_496 rfl rfl rfl ?_
  refine gj_iconst hX 3 498 dw_L_law_497 (by decide) rfl ?_
  refine gj_iadd hX (nI 3) 499 (by decide) dw_L_law_498 rfl ?_
  refine gj_sld hX 3 500 hB rfl (by omega) (by omega) dw_L_law_499 rfl ?_
  refine gj_i2l hX 501 dw_L_law_500 rfl ?_
  refine gj_ldc2 hX 4294967295 504 dw_L_law_501 tw_1369 rfl ?_
  refine gj_land hX 505 dw_L_law_504 rfl ?_
  refine gj_lor hX 506 dw_L_law_505 rfl ?_
  refine gj_aload_n hX 3 507 dw_L_law_506 rfl rfl rfl ?_
  refine gj_iload_n hX 0 508 dw_L_law_507 rfl rfl rfl ?_
  refine gj_iconst hX 4 509 dw_L_law_508 (by decide) rfl ?_
  refine gj_iadd hX (nI 4) 510 (by decide) dw_L_law_509 rfl ?_
  refine gj_sld hX 4 511 hB rfl (by omega) (by omega) dw_L_law_510 rfl ?_
  refine gj_aload_n hX 3 512 dw_L_law_511 rfl rfl rfl ?_
  refine gj_iload_n hX 0 513 dw_L_law_512 rfl rfl rfl ?_
  refine gj_iconst hX 5 514 dw_L_law_513 (by decide) rfl ?_
  refine gj_iadd hX (nI 5) 515 (by decide) dw_L_law_514 rfl ?_
  refine gj_sld hX 5 516 hB rfl (by omega) (by omega) dw_L_law_515 rfl ?_
  refine gj_i2l hX 517 dw_L_law_516 rfl ?_
  refine gj_bipush hX 32 519 dw_L_law_517 (by decide) rfl ?_
  refine gj_lshl hX 520 dw_L_law_519 rfl ?_
  refine gj_aload_n hX 3 521 dw_L_law_520 rfl rfl rfl ?_
  refine gj_iload_n hX 0 522 dw_L_law_521 rfl rfl rfl ?_
  refine gj_bipush hX 6 524 dw_L_law_522 (by decide) rfl ?_
  refine gj_iadd hX (nI 6) 525 (by decide) dw_L_law_524 rfl ?_
  refine gj_sld hX 6 526 hB rfl (by omega) (by omega) dw_L_law_525 rfl ?_
  refine gj_i2l hX 527 dw_L_law_526 rfl ?_
  refine gj_ldc2 hX 4294967295 530 dw_L_law_527 tw_1369 rfl ?_
  refine gj_land hX 531 dw_L_law_530 rfl ?_
  refine gj_lor hX 532 dw_L_law_531 rfl ?_
  refine gj_callX (u := md_u om cI cB cS cZ) (ob := om) (tys' := [(cI, .int), (cB, .byte), (cS, .short), (cZ, .boolean)]) (σ := md_0 fl) (σ' := τ1) (r := r) (st := [.int r]) hX [.int (xs 1), .long (((Int32.toInt64 (xs 2)) <<< (Int32.toInt64 32 &&& 63)) ||| ((Int32.toInt64 (xs 3)) &&& 4294967295)), .int (xs 4), .long (((Int32.toInt64 (xs 5)) <<< (Int32.toInt64 32 &&& 63)) ||| ((Int32.toInt64 (xs 6)) &&& 4294967295))] 535 rfl (by rw [← e2]; exact tm_M_same _ (md_0 fl) ((xs 1)) ((((Int32.toInt64 (xs 2)) <<< (Int32.toInt64 32 &&& 63)) ||| ((Int32.toInt64 (xs 3)) &&& 4294967295))) ((xs 4)) ((((Int32.toInt64 (xs 5)) <<< (Int32.toInt64 32 &&& 63)) ||| ((Int32.toInt64 (xs 6)) &&& 4294967295)))) (fun U h => h) hy_M_same tw_1287 tw_1284 tw_1285 tw_1286 tw_79 ⟨0, 9, (tf_9, 73), rfl, (md_O om (md_0 fl) 0).2, gf_wo 0 (show 0 < 1 by decide)⟩ ⟨(Nat.le_of_ble_eq_true rfl), (Nat.le_of_ble_eq_true rfl)⟩ (Nat.le_of_ble_eq_true rfl) (Nat.le_of_ble_eq_true rfl) (Nat.le_of_ble_eq_true rfl) dw_L_law_532 rfl rfl ?_
  refine gj_icmp_eq hX 854 538 dw_L_law_535 (by decide) rfl (fun _ => ?_) (fun h => absurd rfl h)
  exact hE σ1 τ1
set_option maxRecDepth 100000 in
set_option maxHeartbeats 4000000 in
theorem lc_10 {D : va_G} {cI cB cS cZ : ClassId} {X : gx_X} {Qq : State → Prop} {ob om : Nat → Nat} {fl : Nat → Int32} {b L : Nat} {xs : Nat → Int32} (hX : gj_K (D, tq_cl, [(cI, .int), (cB, .byte), (cS, .short), (cZ, .boolean)]) X code "TypeLoomLaw" 4 11 460 600000 7302250) (hB : va_X b L xs X.1.2.2.2.2.1 X.1.2.2.2.2.1.heap ∧ b < X.1.2.2.2.2.1.heap.size ∧ ¬ X.2.1 b) (hL : L = 7) (hE : ∀ σ τ, gj_G (D, tq_cl, [(cI, .int), (cB, .byte), (cS, .short), (cZ, .boolean)]) X Qq (gf_w (tc_u ob cI) ob σ ++ gf_w (md_u om cI cB cS cZ) om τ) 155 1132377 854 [(3, .int 0), (2, .ref (om 0)), (1, .ref (ob 0)), (0, .ref b)] []) : gj_G (D, tq_cl, [(cI, .int), (cB, .byte), (cS, .short), (cZ, .boolean)]) X Qq (gf_w (tc_u ob cI) ob tc_0 ++ gf_w (md_u om cI cB cS cZ) om (md_0 fl)) 155 1132377 540 [(3, .int 0), (2, .ref (om 0)), (1, .ref (ob 0)), (0, .ref b)] [] := by
  refine gj_aload_n hX 2 541 dw_L_law_540 rfl rfl rfl ?_
  refine gj_aload_n hX 3 542 dw_L_law_541 rfl rfl rfl ?_
  refine gj_iload_n hX 0 543 dw_L_law_542 rfl rfl rfl ?_
  refine gj_iconst hX 1 544 dw_L_law_543 (by decide) rfl ?_
  refine gj_iadd hX (nI 1) 545 (by decide) dw_L_law_544 rfl ?_
  refine gj_sld hX 1 546 hB rfl (by omega) (by omega) dw_L_law_545 rfl ?_
  refine gj_aload_n hX 3 547 dw_L_law_546 rfl rfl rfl ?_
  refine gj_iload_n hX 0 548 dw_L_law_547 rfl rfl rfl ?_
  refine gj_iconst hX 2 549 dw_L_law_548 (by decide) rfl ?_
  refine gj_iadd hX (nI 2) 550 (by decide) dw_L_law_549 rfl ?_
  refine gj_sld hX 2 551 hB rfl (by omega) (by omega) dw_L_law_550 rfl ?_
  refine gj_i2l hX 552 dw_L_law_551 rfl ?_
  refine gj_bipush hX 32 554 dw_L_law_552 (by decide) rfl ?_
  refine gj_lshl hX 555 dw_L_law_554 rfl ?_
  refine gj_aload_n hX 3 556 dw_L_law_555 rfl rfl rfl ?_
  refine gj_iload_n hX 0 557 dw_L_law_556 rfl rfl rfl ?_
  refine gj_iconst hX 3 558 dw_L_law_557 (by decide) rfl ?_
  refine gj_iadd hX (nI 3) 559 (by decide) dw_L_law_558 rfl ?_
  refine gj_sld hX 3 560 hB rfl (by omega) (by omega) dw_L_law_559 rfl ?_
  refine gj_i2l hX 561 dw_L_law_560 rfl ?_
  refine gj_ldc2 hX 4294967295 564 dw_L_law_561 tw_1369 rfl ?_
  refine gj_land hX 565 dw_L_law_564 rfl ?_
  refine gj_lor hX 566 dw_L_law_565 rfl ?_
  refine gj_aload_n hX 3 567 dw_L_law_566 rfl rfl rfl ?_
  refine gj_iload_n hX 0 568 dw_L_law_567 rfl rfl rfl ?_
  refine gj_iconst hX 4 569 dw_L_law_568 (by decide) rfl ?_
  refine gj_iadd hX (nI 4) 570 (by decide) dw_L_law_569 rfl ?_
  refine gj_sld hX 4 571 hB rfl (by omega) (by omega) dw_L_law_570 rfl ?_
  obtain ⟨r, σ1, τ1, e1, e2⟩ := pr_look fl ((xs 1)) ((((Int32.toInt64 (xs 2)) <<< (Int32.toInt64 32 &&& 63)) ||| ((Int32.toInt64 (xs 3)) &&& 4294967295))) ((xs 4))
  refine gj_swap ?_
  refine gj_callX (u := tc_u ob cI) (ob := ob) (tys' := [(cI, .int)]) (σ := tc_0) (σ' := σ1) (r := r) (st := []) hX [.int (xs 1), .long (((Int32.toInt64 (xs 2)) <<< (Int32.toInt64 32 &&& 63)) ||| ((Int32.toInt64 (xs 3)) &&& 4294967295)), .int (xs 4)] 574 rfl (by rw [← e1]; exact tm_T_look _ tc_0 ((xs 1)) ((((Int32.toInt64 (xs 2)) <<< (Int32.toInt64 32 &&& 63)) ||| ((Int32.toInt64 (xs 3)) &&& 4294967295))) ((xs 4))) (fun U h => h.sub [0] rfl) hy_T_look tw_787 tw_784 tw_785 tw_786 tw_70 ⟨0, 0, (tf_0, 8), rfl, (tc_O ob tc_0 0).2, gf_wo 0 (show 0 < 55 by decide)⟩ ⟨(Nat.le_of_ble_eq_true rfl), (Nat.le_of_ble_eq_true rfl)⟩ (Nat.le_of_ble_eq_true rfl) (Nat.le_of_ble_eq_true rfl) (Nat.le_of_ble_eq_true rfl) dw_L_law_571 rfl rfl ?_
  refine gj_swap ?_
  refine gj_aload_n hX 1 575 dw_L_law_574 rfl rfl rfl ?_
  refine gj_aload_n hX 3 576 dw_L_law_575 rfl rfl rfl ?_
  refine gj_iload_n hX 0 577 dw_L_law_576 rfl rfl rfl ?_
  refine gj_iconst hX 1 578 dw_L_law_577 (by decide) rfl ?_
  refine gj_iadd hX (nI 1) 579 (by decide) dw_L_law_578 rfl ?_
  refine gj_sld hX 1 580 hB rfl (by omega) (by omega) dw_L_law_579 rfl ?_
  refine gj_aload_n hX 3 581 dw_L_law_580 rfl rfl rfl ?_
  refine gj_iload_n hX 0 582 dw_L_law_581 rfl rfl rfl ?_
  refine gj_iconst hX 2 583 dw_L_law_582 (by decide) rfl ?_
  refine gj_iadd hX (nI 2) 584 (by decide) dw_L_law_583 rfl ?_
  refine gj_sld hX 2 585 hB rfl (by omega) (by omega) dw_L_law_584 rfl ?_
  refine gj_i2l hX 586 dw_L_law_585 rfl ?_
  refine gj_bipush hX 32 588 dw_L_law_586 (by decide) rfl ?_
  refine gj_lshl hX 589 dw_L_law_588 rfl ?_
  refine gj_aload_n hX 3 590 dw_L_law_589 rfl rfl rfl ?_
  refine gj_iload_n hX 0 591 dw_L_law_590 rfl rfl rfl ?_
  refine gj_iconst hX 3 592 dw_L_law_591 (by decide) rfl ?_
  refine gj_iadd hX (nI 3) 593 (by decide) dw_L_law_592 rfl ?_
  refine gj_sld hX 3 594 hB rfl (by omega) (by omega) dw_L_law_593 rfl ?_
  refine gj_i2l hX 595 dw_L_law_594 rfl ?_
  refine gj_ldc2 hX 4294967295 598 dw_L_law_595 tw_1369 rfl ?_
  refine gj_land hX 599 dw_L_law_598 rfl ?_
  refine gj_lor hX 600 dw_L_law_599 rfl ?_
  refine gj_aload_n hX 3 601 dw_L_law_600 rfl rfl rfl ?_
  refine gj_iload_n hX 0 602 dw_L_law_601 rfl rfl rfl ?_
  refine gj_iconst hX 4 603 dw_L_law_602 (by decide) rfl ?_
  refine gj_iadd hX (nI 4) 604 (by decide) dw_L_law_603 rfl ?_
  refine gj_sld hX 4 605 hB rfl (by omega) (by omega) dw_L_law_604 rfl ?_
  refine gj_callX (u := md_u om cI cB cS cZ) (ob := om) (tys' := [(cI, .int), (cB, .byte), (cS, .short), (cZ, .boolean)]) (σ := md_0 fl) (σ' := τ1) (r := r) (st := [.int r]) hX [.int (xs 1), .long (((Int32.toInt64 (xs 2)) <<< (Int32.toInt64 32 &&& 63)) ||| ((Int32.toInt64 (xs 3)) &&& 4294967295)), .int (xs 4)] 608 rfl (by rw [← e2]; exact tm_M_look _ (md_0 fl) ((xs 1)) ((((Int32.toInt64 (xs 2)) <<< (Int32.toInt64 32 &&& 63)) ||| ((Int32.toInt64 (xs 3)) &&& 4294967295))) ((xs 4))) (fun U h => h) hy_M_look tw_1308 tw_1305 tw_1306 tw_1307 tw_79 ⟨0, 9, (tf_9, 73), rfl, (md_O om (md_0 fl) 0).2, gf_wo 0 (show 0 < 1 by decide)⟩ ⟨(Nat.le_of_ble_eq_true rfl), (Nat.le_of_ble_eq_true rfl)⟩ (Nat.le_of_ble_eq_true rfl) (Nat.le_of_ble_eq_true rfl) (Nat.le_of_ble_eq_true rfl) dw_L_law_605 rfl rfl ?_
  refine gj_icmp_eq hX 854 611 dw_L_law_608 (by decide) rfl (fun _ => ?_) (fun h => absurd rfl h)
  exact hE σ1 τ1
set_option maxRecDepth 100000 in
set_option maxHeartbeats 4000000 in
theorem lc_11 {D : va_G} {cI cB cS cZ : ClassId} {X : gx_X} {Qq : State → Prop} {ob om : Nat → Nat} {fl : Nat → Int32} {b L : Nat} {xs : Nat → Int32} (hX : gj_K (D, tq_cl, [(cI, .int), (cB, .byte), (cS, .short), (cZ, .boolean)]) X code "TypeLoomLaw" 4 11 460 600000 7302250) (hB : va_X b L xs X.1.2.2.2.2.1 X.1.2.2.2.2.1.heap ∧ b < X.1.2.2.2.2.1.heap.size ∧ ¬ X.2.1 b) (hL : L = 7) (hE : ∀ σ τ, gj_G (D, tq_cl, [(cI, .int), (cB, .byte), (cS, .short), (cZ, .boolean)]) X Qq (gf_w (tc_u ob cI) ob σ ++ gf_w (md_u om cI cB cS cZ) om τ) 155 1132377 854 [(3, .int 0), (2, .ref (om 0)), (1, .ref (ob 0)), (0, .ref b)] []) : gj_G (D, tq_cl, [(cI, .int), (cB, .byte), (cS, .short), (cZ, .boolean)]) X Qq (gf_w (tc_u ob cI) ob tc_0 ++ gf_w (md_u om cI cB cS cZ) om (md_0 fl)) 155 1132377 613 [(3, .int 0), (2, .ref (om 0)), (1, .ref (ob 0)), (0, .ref b)] [] := by
  refine gj_aload_n hX 2 614 dw_L_law_613 rfl rfl rfl ?_
  refine gj_aload_n hX 3 615 dw_L_law_614 rfl rfl rfl ?_
  refine gj_iload_n hX 0 616 dw_L_law_615 rfl rfl rfl ?_
  refine gj_iconst hX 1 617 dw_L_law_616 (by decide) rfl ?_
  refine gj_iadd hX (nI 1) 618 (by decide) dw_L_law_617 rfl ?_
  refine gj_sld hX 1 619 hB rfl (by omega) (by omega) dw_L_law_618 rfl ?_
  refine gj_aload_n hX 3 620 dw_L_law_619 rfl rfl rfl ?_
  refine gj_iload_n hX 0 621 dw_L_law_620 rfl rfl rfl ?_
  refine gj_iconst hX 2 622 dw_L_law_621 (by decide) rfl ?_
  refine gj_iadd hX (nI 2) 623 (by decide) dw_L_law_622 rfl ?_
  refine gj_sld hX 2 624 hB rfl (by omega) (by omega) dw_L_law_623 rfl ?_
  refine gj_i2l hX 625 dw_L_law_624 rfl ?_
  refine gj_bipush hX 32 627 dw_L_law_625 (by decide) rfl ?_
  refine gj_lshl hX 628 dw_L_law_627 rfl ?_
  refine gj_aload_n hX 3 629 dw_L_law_628 rfl rfl rfl ?_
  refine gj_iload_n hX 0 630 dw_L_law_629 rfl rfl rfl ?_
  refine gj_iconst hX 3 631 dw_L_law_630 (by decide) rfl ?_
  refine gj_iadd hX (nI 3) 632 (by decide) dw_L_law_631 rfl ?_
  refine gj_sld hX 3 633 hB rfl (by omega) (by omega) dw_L_law_632 rfl ?_
  refine gj_i2l hX 634 dw_L_law_633 rfl ?_
  refine gj_ldc2 hX 4294967295 637 dw_L_law_634 tw_1369 rfl ?_
  refine gj_land hX 638 dw_L_law_637 rfl ?_
  refine gj_lor hX 639 dw_L_law_638 rfl ?_
  refine gj_aload_n hX 3 640 dw_L_law_639 rfl rfl rfl ?_
  refine gj_iload_n hX 0 641 dw_L_law_640 rfl rfl rfl ?_
  refine gj_iconst hX 4 642 dw_L_law_641 (by decide) rfl ?_
  refine gj_iadd hX (nI 4) 643 (by decide) dw_L_law_642 rfl ?_
  refine gj_sld hX 4 644 hB rfl (by omega) (by omega) dw_L_law_643 rfl ?_
  obtain ⟨r, σ1, τ1, e1, e2⟩ := pr_label fl ((xs 1)) ((((Int32.toInt64 (xs 2)) <<< (Int32.toInt64 32 &&& 63)) ||| ((Int32.toInt64 (xs 3)) &&& 4294967295))) ((xs 4))
  refine gj_swap ?_
  refine gj_callX (u := tc_u ob cI) (ob := ob) (tys' := [(cI, .int)]) (σ := tc_0) (σ' := σ1) (r := r) (st := []) hX [.int (xs 1), .long (((Int32.toInt64 (xs 2)) <<< (Int32.toInt64 32 &&& 63)) ||| ((Int32.toInt64 (xs 3)) &&& 4294967295)), .int (xs 4)] 647 rfl (by rw [← e1]; exact tm_T_label _ tc_0 ((xs 1)) ((((Int32.toInt64 (xs 2)) <<< (Int32.toInt64 32 &&& 63)) ||| ((Int32.toInt64 (xs 3)) &&& 4294967295))) ((xs 4))) (fun U h => h.sub [0] rfl) hy_T_label tw_808 tw_805 tw_806 tw_807 tw_70 ⟨0, 0, (tf_0, 8), rfl, (tc_O ob tc_0 0).2, gf_wo 0 (show 0 < 55 by decide)⟩ ⟨(Nat.le_of_ble_eq_true rfl), (Nat.le_of_ble_eq_true rfl)⟩ (Nat.le_of_ble_eq_true rfl) (Nat.le_of_ble_eq_true rfl) (Nat.le_of_ble_eq_true rfl) dw_L_law_644 rfl rfl ?_
  refine gj_swap ?_
  refine gj_aload_n hX 1 648 dw_L_law_647 rfl rfl rfl ?_
  refine gj_aload_n hX 3 649 dw_L_law_648 rfl rfl rfl ?_
  refine gj_iload_n hX 0 650 dw_L_law_649 rfl rfl rfl ?_
  refine gj_iconst hX 1 651 dw_L_law_650 (by decide) rfl ?_
  refine gj_iadd hX (nI 1) 652 (by decide) dw_L_law_651 rfl ?_
  refine gj_sld hX 1 653 hB rfl (by omega) (by omega) dw_L_law_652 rfl ?_
  refine gj_aload_n hX 3 654 dw_L_law_653 rfl rfl rfl ?_
  refine gj_iload_n hX 0 655 dw_L_law_654 rfl rfl rfl ?_
  refine gj_iconst hX 2 656 dw_L_law_655 (by decide) rfl ?_
  refine gj_iadd hX (nI 2) 657 (by decide) dw_L_law_656 rfl ?_
  refine gj_sld hX 2 658 hB rfl (by omega) (by omega) dw_L_law_657 rfl ?_
  refine gj_i2l hX 659 dw_L_law_658 rfl ?_
  refine gj_bipush hX 32 661 dw_L_law_659 (by decide) rfl ?_
  refine gj_lshl hX 662 dw_L_law_661 rfl ?_
  refine gj_aload_n hX 3 663 dw_L_law_662 rfl rfl rfl ?_
  refine gj_iload_n hX 0 664 dw_L_law_663 rfl rfl rfl ?_
  refine gj_iconst hX 3 665 dw_L_law_664 (by decide) rfl ?_
  refine gj_iadd hX (nI 3) 666 (by decide) dw_L_law_665 rfl ?_
  refine gj_sld hX 3 667 hB rfl (by omega) (by omega) dw_L_law_666 rfl ?_
  refine gj_i2l hX 668 dw_L_law_667 rfl ?_
  refine gj_ldc2 hX 4294967295 671 dw_L_law_668 tw_1369 rfl ?_
  refine gj_land hX 672 dw_L_law_671 rfl ?_
  refine gj_lor hX 673 dw_L_law_672 rfl ?_
  refine gj_aload_n hX 3 674 dw_L_law_673 rfl rfl rfl ?_
  refine gj_iload_n hX 0 675 dw_L_law_674 rfl rfl rfl ?_
  refine gj_iconst hX 4 676 dw_L_law_675 (by decide) rfl ?_
  refine gj_iadd hX (nI 4) 677 (by decide) dw_L_law_676 rfl ?_
  refine gj_sld hX 4 678 hB rfl (by omega) (by omega) dw_L_law_677 rfl ?_
  refine gj_callX (u := md_u om cI cB cS cZ) (ob := om) (tys' := [(cI, .int), (cB, .byte), (cS, .short), (cZ, .boolean)]) (σ := md_0 fl) (σ' := τ1) (r := r) (st := [.int r]) hX [.int (xs 1), .long (((Int32.toInt64 (xs 2)) <<< (Int32.toInt64 32 &&& 63)) ||| ((Int32.toInt64 (xs 3)) &&& 4294967295)), .int (xs 4)] 681 rfl (by rw [← e2]; exact tm_M_label _ (md_0 fl) ((xs 1)) ((((Int32.toInt64 (xs 2)) <<< (Int32.toInt64 32 &&& 63)) ||| ((Int32.toInt64 (xs 3)) &&& 4294967295))) ((xs 4))) (fun U h => h) hy_M_label tw_1320 tw_1317 tw_1318 tw_1319 tw_79 ⟨0, 9, (tf_9, 73), rfl, (md_O om (md_0 fl) 0).2, gf_wo 0 (show 0 < 1 by decide)⟩ ⟨(Nat.le_of_ble_eq_true rfl), (Nat.le_of_ble_eq_true rfl)⟩ (Nat.le_of_ble_eq_true rfl) (Nat.le_of_ble_eq_true rfl) (Nat.le_of_ble_eq_true rfl) dw_L_law_678 rfl rfl ?_
  refine gj_icmp_eq hX 854 684 dw_L_law_681 (by decide) rfl (fun _ => ?_) (fun h => absurd rfl h)
  exact hE σ1 τ1
set_option maxRecDepth 100000 in
set_option maxHeartbeats 4000000 in
theorem lc_12 {D : va_G} {cI cB cS cZ : ClassId} {X : gx_X} {Qq : State → Prop} {ob om : Nat → Nat} {fl : Nat → Int32} {b L : Nat} {xs : Nat → Int32} (hX : gj_K (D, tq_cl, [(cI, .int), (cB, .byte), (cS, .short), (cZ, .boolean)]) X code "TypeLoomLaw" 4 11 460 600000 7302250) (hB : va_X b L xs X.1.2.2.2.2.1 X.1.2.2.2.2.1.heap ∧ b < X.1.2.2.2.2.1.heap.size ∧ ¬ X.2.1 b) (hL : L = 7) (hE : ∀ σ τ, gj_G (D, tq_cl, [(cI, .int), (cB, .byte), (cS, .short), (cZ, .boolean)]) X Qq (gf_w (tc_u ob cI) ob σ ++ gf_w (md_u om cI cB cS cZ) om τ) 155 1132377 854 [(3, .int 0), (2, .ref (om 0)), (1, .ref (ob 0)), (0, .ref b)] []) : gj_G (D, tq_cl, [(cI, .int), (cB, .byte), (cS, .short), (cZ, .boolean)]) X Qq (gf_w (tc_u ob cI) ob tc_0 ++ gf_w (md_u om cI cB cS cZ) om (md_0 fl)) 155 1132377 686 [(3, .int 0), (2, .ref (om 0)), (1, .ref (ob 0)), (0, .ref b)] [] := by
  refine gj_aload_n hX 2 687 dw_L_law_686 rfl rfl rfl ?_
  refine gj_aload_n hX 3 688 dw_L_law_687 rfl rfl rfl ?_
  refine gj_iload_n hX 0 689 dw_L_law_688 rfl rfl rfl ?_
  refine gj_iconst hX 1 690 dw_L_law_689 (by decide) rfl ?_
  refine gj_iadd hX (nI 1) 691 (by decide) dw_L_law_690 rfl ?_
  refine gj_sld hX 1 692 hB rfl (by omega) (by omega) dw_L_law_691 rfl ?_
  obtain ⟨r, σ1, τ1, e1, e2⟩ := pr_scheme fl ((xs 1))
  refine gj_swap ?_
  refine gj_callX (u := tc_u ob cI) (ob := ob) (tys' := [(cI, .int)]) (σ := tc_0) (σ' := σ1) (r := r) (st := []) hX [.int (xs 1)] 695 rfl (by rw [← e1]; exact tm_T_scheme _ tc_0 ((xs 1))) (fun U h => h.sub [0] rfl) hy_T_scheme tw_813 tw_810 tw_811 tw_812 tw_70 ⟨0, 0, (tf_0, 8), rfl, (tc_O ob tc_0 0).2, gf_wo 0 (show 0 < 55 by decide)⟩ ⟨(Nat.le_of_ble_eq_true rfl), (Nat.le_of_ble_eq_true rfl)⟩ (Nat.le_of_ble_eq_true rfl) (Nat.le_of_ble_eq_true rfl) (Nat.le_of_ble_eq_true rfl) dw_L_law_692 rfl rfl ?_
  refine gj_swap ?_
  refine gj_aload_n hX 1 696 dw_L_law_695 rfl rfl rfl ?_
  refine gj_aload_n hX 3 697 dw_L_law_696 rfl rfl rfl ?_
  refine gj_iload_n hX 0 698 dw_L_law_697 rfl rfl rfl ?_
  refine gj_iconst hX 1 699 dw_L_law_698 (by decide) rfl ?_
  refine gj_iadd hX (nI 1) 700 (by decide) dw_L_law_699 rfl ?_
  refine gj_sld hX 1 701 hB rfl (by omega) (by omega) dw_L_law_700 rfl ?_
  refine gj_callX (u := md_u om cI cB cS cZ) (ob := om) (tys' := [(cI, .int), (cB, .byte), (cS, .short), (cZ, .boolean)]) (σ := md_0 fl) (σ' := τ1) (r := r) (st := [.int r]) hX [.int (xs 1)] 704 rfl (by rw [← e2]; exact tm_M_scheme _ (md_0 fl) ((xs 1))) (fun U h => h) hy_M_scheme tw_1324 tw_1321 tw_1322 tw_1323 tw_79 ⟨0, 9, (tf_9, 73), rfl, (md_O om (md_0 fl) 0).2, gf_wo 0 (show 0 < 1 by decide)⟩ ⟨(Nat.le_of_ble_eq_true rfl), (Nat.le_of_ble_eq_true rfl)⟩ (Nat.le_of_ble_eq_true rfl) (Nat.le_of_ble_eq_true rfl) (Nat.le_of_ble_eq_true rfl) dw_L_law_701 rfl rfl ?_
  refine gj_icmp_eq hX 854 707 dw_L_law_704 (by decide) rfl (fun _ => ?_) (fun h => absurd rfl h)
  exact hE σ1 τ1
set_option maxRecDepth 100000 in
set_option maxHeartbeats 4000000 in
theorem lc_13 {D : va_G} {cI cB cS cZ : ClassId} {X : gx_X} {Qq : State → Prop} {ob om : Nat → Nat} {fl : Nat → Int32} {b L : Nat} {xs : Nat → Int32} (hX : gj_K (D, tq_cl, [(cI, .int), (cB, .byte), (cS, .short), (cZ, .boolean)]) X code "TypeLoomLaw" 4 11 460 600000 7302250) (hB : va_X b L xs X.1.2.2.2.2.1 X.1.2.2.2.2.1.heap ∧ b < X.1.2.2.2.2.1.heap.size ∧ ¬ X.2.1 b) (hL : L = 7) (hE : ∀ σ τ, gj_G (D, tq_cl, [(cI, .int), (cB, .byte), (cS, .short), (cZ, .boolean)]) X Qq (gf_w (tc_u ob cI) ob σ ++ gf_w (md_u om cI cB cS cZ) om τ) 155 1132377 854 [(3, .int 0), (2, .ref (om 0)), (1, .ref (ob 0)), (0, .ref b)] []) : gj_G (D, tq_cl, [(cI, .int), (cB, .byte), (cS, .short), (cZ, .boolean)]) X Qq (gf_w (tc_u ob cI) ob tc_0 ++ gf_w (md_u om cI cB cS cZ) om (md_0 fl)) 155 1132377 709 [(3, .int 0), (2, .ref (om 0)), (1, .ref (ob 0)), (0, .ref b)] [] := by
  refine gj_aload_n hX 2 710 dw_L_law_709 rfl rfl rfl ?_
  refine gj_aload_n hX 3 711 dw_L_law_710 rfl rfl rfl ?_
  refine gj_iload_n hX 0 712 dw_L_law_711 rfl rfl rfl ?_
  refine gj_iconst hX 1 713 dw_L_law_712 (by decide) rfl ?_
  refine gj_iadd hX (nI 1) 714 (by decide) dw_L_law_713 rfl ?_
  refine gj_sld hX 1 715 hB rfl (by omega) (by omega) dw_L_law_714 rfl ?_
  refine gj_aload_n hX 3 716 dw_L_law_715 rfl rfl rfl ?_
  refine gj_iload_n hX 0 717 dw_L_law_716 rfl rfl rfl ?_
  refine gj_iconst hX 2 718 dw_L_law_717 (by decide) rfl ?_
  refine gj_iadd hX (nI 2) 719 (by decide) dw_L_law_718 rfl ?_
  refine gj_sld hX 2 720 hB rfl (by omega) (by omega) dw_L_law_719 rfl ?_
  obtain ⟨r, σ1, τ1, e1, e2⟩ := pr_quantified fl ((xs 1)) ((xs 2))
  refine gj_swap ?_
  refine gj_callX (u := tc_u ob cI) (ob := ob) (tys' := [(cI, .int)]) (σ := tc_0) (σ' := σ1) (r := r) (st := []) hX [.int (xs 1), .int (xs 2)] 723 rfl (by rw [← e1]; exact tm_T_quantified _ tc_0 ((xs 1)) ((xs 2))) (fun U h => h.sub [0] rfl) hy_T_quantified tw_840 tw_837 tw_838 tw_839 tw_70 ⟨0, 0, (tf_0, 8), rfl, (tc_O ob tc_0 0).2, gf_wo 0 (show 0 < 55 by decide)⟩ ⟨(Nat.le_of_ble_eq_true rfl), (Nat.le_of_ble_eq_true rfl)⟩ (Nat.le_of_ble_eq_true rfl) (Nat.le_of_ble_eq_true rfl) (Nat.le_of_ble_eq_true rfl) dw_L_law_720 rfl rfl ?_
  refine gj_swap ?_
  refine gj_aload_n hX 1 724 dw_L_law_723 rfl rfl rfl ?_
  refine gj_aload_n hX 3 725 dw_L_law_724 rfl rfl rfl ?_
  refine gj_iload_n hX 0 726 dw_L_law_725 rfl rfl rfl ?_
  refine gj_iconst hX 1 727 dw_L_law_726 (by decide) rfl ?_
  refine gj_iadd hX (nI 1) 728 (by decide) dw_L_law_727 rfl ?_
  refine gj_sld hX 1 729 hB rfl (by omega) (by omega) dw_L_law_728 rfl ?_
  refine gj_aload_n hX 3 730 dw_L_law_729 rfl rfl rfl ?_
  refine gj_iload_n hX 0 731 dw_L_law_730 rfl rfl rfl ?_
  refine gj_iconst hX 2 732 dw_L_law_731 (by decide) rfl ?_
  refine gj_iadd hX (nI 2) 733 (by decide) dw_L_law_732 rfl ?_
  refine gj_sld hX 2 734 hB rfl (by omega) (by omega) dw_L_law_733 rfl ?_
  refine gj_callX (u := md_u om cI cB cS cZ) (ob := om) (tys' := [(cI, .int), (cB, .byte), (cS, .short), (cZ, .boolean)]) (σ := md_0 fl) (σ' := τ1) (r := r) (st := [.int r]) hX [.int (xs 1), .int (xs 2)] 737 rfl (by rw [← e2]; exact tm_M_quantified _ (md_0 fl) ((xs 1)) ((xs 2))) (fun U h => h) hy_M_quantified tw_1344 tw_1341 tw_1342 tw_1343 tw_79 ⟨0, 9, (tf_9, 73), rfl, (md_O om (md_0 fl) 0).2, gf_wo 0 (show 0 < 1 by decide)⟩ ⟨(Nat.le_of_ble_eq_true rfl), (Nat.le_of_ble_eq_true rfl)⟩ (Nat.le_of_ble_eq_true rfl) (Nat.le_of_ble_eq_true rfl) (Nat.le_of_ble_eq_true rfl) dw_L_law_734 rfl rfl ?_
  refine gj_icmp_eq hX 854 740 dw_L_law_737 (by decide) rfl (fun _ => ?_) (fun h => absurd rfl h)
  exact hE σ1 τ1
set_option maxRecDepth 100000 in
set_option maxHeartbeats 4000000 in
theorem lc_14 {D : va_G} {cI cB cS cZ : ClassId} {X : gx_X} {Qq : State → Prop} {ob om : Nat → Nat} {fl : Nat → Int32} {b L : Nat} {xs : Nat → Int32} (hX : gj_K (D, tq_cl, [(cI, .int), (cB, .byte), (cS, .short), (cZ, .boolean)]) X code "TypeLoomLaw" 4 11 460 600000 7302250) (hB : va_X b L xs X.1.2.2.2.2.1 X.1.2.2.2.2.1.heap ∧ b < X.1.2.2.2.2.1.heap.size ∧ ¬ X.2.1 b) (hL : L = 7) (hE : ∀ σ τ, gj_G (D, tq_cl, [(cI, .int), (cB, .byte), (cS, .short), (cZ, .boolean)]) X Qq (gf_w (tc_u ob cI) ob σ ++ gf_w (md_u om cI cB cS cZ) om τ) 155 1132377 854 [(3, .int 0), (2, .ref (om 0)), (1, .ref (ob 0)), (0, .ref b)] []) : gj_G (D, tq_cl, [(cI, .int), (cB, .byte), (cS, .short), (cZ, .boolean)]) X Qq (gf_w (tc_u ob cI) ob tc_0 ++ gf_w (md_u om cI cB cS cZ) om (md_0 fl)) 155 1132377 742 [(3, .int 0), (2, .ref (om 0)), (1, .ref (ob 0)), (0, .ref b)] [] := by
  refine gj_aload_n hX 2 743 dw_L_law_742 rfl rfl rfl ?_
  refine gj_aload_n hX 3 744 dw_L_law_743 rfl rfl rfl ?_
  refine gj_iload_n hX 0 745 dw_L_law_744 rfl rfl rfl ?_
  refine gj_iconst hX 1 746 dw_L_law_745 (by decide) rfl ?_
  refine gj_iadd hX (nI 1) 747 (by decide) dw_L_law_746 rfl ?_
  refine gj_sld hX 1 748 hB rfl (by omega) (by omega) dw_L_law_747 rfl ?_
  obtain ⟨r, σ1, τ1, e1, e2⟩ := pr_instance fl ((xs 1))
  refine gj_swap ?_
  refine gj_callX (u := tc_u ob cI) (ob := ob) (tys' := [(cI, .int)]) (σ := tc_0) (σ' := σ1) (r := r) (st := []) hX [.int (xs 1)] 751 rfl (by rw [← e1]; exact tm_T_instance _ tc_0 ((xs 1))) (fun U h => h.sub [0] rfl) hy_T_instance tw_852 tw_849 tw_850 tw_851 tw_70 ⟨0, 0, (tf_0, 8), rfl, (tc_O ob tc_0 0).2, gf_wo 0 (show 0 < 55 by decide)⟩ ⟨(Nat.le_of_ble_eq_true rfl), (Nat.le_of_ble_eq_true rfl)⟩ (Nat.le_of_ble_eq_true rfl) (Nat.le_of_ble_eq_true rfl) (Nat.le_of_ble_eq_true rfl) dw_L_law_748 rfl rfl ?_
  refine gj_swap ?_
  refine gj_aload_n hX 1 752 dw_L_law_751 rfl rfl rfl ?_
  refine gj_aload_n hX 3 753 dw_L_law_752 rfl rfl rfl ?_
  refine gj_iload_n hX 0 754 dw_L_law_753 rfl rfl rfl ?_
  refine gj_iconst hX 1 755 dw_L_law_754 (by decide) rfl ?_
  refine gj_iadd hX (nI 1) 756 (by decide) dw_L_law_755 rfl ?_
  refine gj_sld hX 1 757 hB rfl (by omega) (by omega) dw_L_law_756 rfl ?_
  refine gj_callX (u := md_u om cI cB cS cZ) (ob := om) (tys' := [(cI, .int), (cB, .byte), (cS, .short), (cZ, .boolean)]) (σ := md_0 fl) (σ' := τ1) (r := r) (st := [.int r]) hX [.int (xs 1)] 760 rfl (by rw [← e2]; exact tm_M_instance _ (md_0 fl) ((xs 1))) (fun U h => h) hy_M_instance tw_1352 tw_1349 tw_1350 tw_1351 tw_79 ⟨0, 9, (tf_9, 73), rfl, (md_O om (md_0 fl) 0).2, gf_wo 0 (show 0 < 1 by decide)⟩ ⟨(Nat.le_of_ble_eq_true rfl), (Nat.le_of_ble_eq_true rfl)⟩ (Nat.le_of_ble_eq_true rfl) (Nat.le_of_ble_eq_true rfl) (Nat.le_of_ble_eq_true rfl) dw_L_law_757 rfl rfl ?_
  refine gj_icmp_eq hX 854 763 dw_L_law_760 (by decide) rfl (fun _ => ?_) (fun h => absurd rfl h)
  exact hE σ1 τ1
set_option maxRecDepth 100000 in
set_option maxHeartbeats 4000000 in
theorem lc_15 {D : va_G} {cI cB cS cZ : ClassId} {X : gx_X} {Qq : State → Prop} {ob om : Nat → Nat} {fl : Nat → Int32} {b L : Nat} {xs : Nat → Int32} (hX : gj_K (D, tq_cl, [(cI, .int), (cB, .byte), (cS, .short), (cZ, .boolean)]) X code "TypeLoomLaw" 4 11 460 600000 7302250) (hB : va_X b L xs X.1.2.2.2.2.1 X.1.2.2.2.2.1.heap ∧ b < X.1.2.2.2.2.1.heap.size ∧ ¬ X.2.1 b) (hL : L = 7) (hE : ∀ σ τ, gj_G (D, tq_cl, [(cI, .int), (cB, .byte), (cS, .short), (cZ, .boolean)]) X Qq (gf_w (tc_u ob cI) ob σ ++ gf_w (md_u om cI cB cS cZ) om τ) 155 1132377 854 [(3, .int 0), (2, .ref (om 0)), (1, .ref (ob 0)), (0, .ref b)] []) : gj_G (D, tq_cl, [(cI, .int), (cB, .byte), (cS, .short), (cZ, .boolean)]) X Qq (gf_w (tc_u ob cI) ob tc_0 ++ gf_w (md_u om cI cB cS cZ) om (md_0 fl)) 155 1132377 765 [(3, .int 0), (2, .ref (om 0)), (1, .ref (ob 0)), (0, .ref b)] [] := by
  refine gj_aload_n hX 2 766 dw_L_law_765 rfl rfl rfl ?_
  refine gj_aload_n hX 3 767 dw_L_law_766 rfl rfl rfl ?_
  refine gj_iload_n hX 0 768 dw_L_law_767 rfl rfl rfl ?_
  refine gj_iconst hX 1 769 dw_L_law_768 (by decide) rfl ?_
  refine gj_iadd hX (nI 1) 770 (by decide) dw_L_law_769 rfl ?_
  refine gj_sld hX 1 771 hB rfl (by omega) (by omega) dw_L_law_770 rfl ?_
  refine gj_aload_n hX 3 772 dw_L_law_771 rfl rfl rfl ?_
  refine gj_iload_n hX 0 773 dw_L_law_772 rfl rfl rfl ?_
  refine gj_iconst hX 2 774 dw_L_law_773 (by decide) rfl ?_
  refine gj_iadd hX (nI 2) 775 (by decide) dw_L_law_774 rfl ?_
  refine gj_sld hX 2 776 hB rfl (by omega) (by omega) dw_L_law_775 rfl ?_
  obtain ⟨r, σ1, τ1, e1, e2⟩ := pr_alike fl ((xs 1)) ((xs 2))
  refine gj_swap ?_
  refine gj_callX (u := tc_u ob cI) (ob := ob) (tys' := [(cI, .int)]) (σ := tc_0) (σ' := σ1) (r := r) (st := []) hX [.int (xs 1), .int (xs 2)] 779 rfl (by rw [← e1]; exact tm_T_alike _ tc_0 ((xs 1)) ((xs 2))) (fun U h => h.sub [0] rfl) hy_T_alike tw_868 tw_865 tw_866 tw_867 tw_70 ⟨0, 0, (tf_0, 8), rfl, (tc_O ob tc_0 0).2, gf_wo 0 (show 0 < 55 by decide)⟩ ⟨(Nat.le_of_ble_eq_true rfl), (Nat.le_of_ble_eq_true rfl)⟩ (Nat.le_of_ble_eq_true rfl) (Nat.le_of_ble_eq_true rfl) (Nat.le_of_ble_eq_true rfl) dw_L_law_776 rfl rfl ?_
  refine gj_swap ?_
  refine gj_aload_n hX 1 780 dw_L_law_779 rfl rfl rfl ?_
  refine gj_aload_n hX 3 781 dw_L_law_780 rfl rfl rfl ?_
  refine gj_iload_n hX 0 782 dw_L_law_781 rfl rfl rfl ?_
  refine gj_iconst hX 1 783 dw_L_law_782 (by decide) rfl ?_
  refine gj_iadd hX (nI 1) 784 (by decide) dw_L_law_783 rfl ?_
  refine gj_sld hX 1 785 hB rfl (by omega) (by omega) dw_L_law_784 rfl ?_
  refine gj_aload_n hX 3 786 dw_L_law_785 rfl rfl rfl ?_
  refine gj_iload_n hX 0 787 dw_L_law_786 rfl rfl rfl ?_
  refine gj_iconst hX 2 788 dw_L_law_787 (by decide) rfl ?_
  refine gj_iadd hX (nI 2) 789 (by decide) dw_L_law_788 rfl ?_
  refine gj_sld hX 2 790 hB rfl (by omega) (by omega) dw_L_law_789 rfl ?_
  refine gj_callX (u := md_u om cI cB cS cZ) (ob := om) (tys' := [(cI, .int), (cB, .byte), (cS, .short), (cZ, .boolean)]) (σ := md_0 fl) (σ' := τ1) (r := r) (st := [.int r]) hX [.int (xs 1), .int (xs 2)] 793 rfl (by rw [← e2]; exact tm_M_alike _ (md_0 fl) ((xs 1)) ((xs 2))) (fun U h => h) hy_M_alike tw_1360 tw_1357 tw_1358 tw_1359 tw_79 ⟨0, 9, (tf_9, 73), rfl, (md_O om (md_0 fl) 0).2, gf_wo 0 (show 0 < 1 by decide)⟩ ⟨(Nat.le_of_ble_eq_true rfl), (Nat.le_of_ble_eq_true rfl)⟩ (Nat.le_of_ble_eq_true rfl) (Nat.le_of_ble_eq_true rfl) (Nat.le_of_ble_eq_true rfl) dw_L_law_790 rfl rfl ?_
  refine gj_icmp_eq hX 854 796 dw_L_law_793 (by decide) rfl (fun _ => ?_) (fun h => absurd rfl h)
  exact hE σ1 τ1
set_option maxRecDepth 100000 in
set_option maxHeartbeats 4000000 in
theorem lc_16 {D : va_G} {cI cB cS cZ : ClassId} {X : gx_X} {Qq : State → Prop} {ob om : Nat → Nat} {fl : Nat → Int32} {b L : Nat} {xs : Nat → Int32} (hX : gj_K (D, tq_cl, [(cI, .int), (cB, .byte), (cS, .short), (cZ, .boolean)]) X code "TypeLoomLaw" 4 11 460 600000 7302250) (hB : va_X b L xs X.1.2.2.2.2.1 X.1.2.2.2.2.1.heap ∧ b < X.1.2.2.2.2.1.heap.size ∧ ¬ X.2.1 b) (hL : L = 7) (hE : ∀ σ τ, gj_G (D, tq_cl, [(cI, .int), (cB, .byte), (cS, .short), (cZ, .boolean)]) X Qq (gf_w (tc_u ob cI) ob σ ++ gf_w (md_u om cI cB cS cZ) om τ) 155 1132377 854 [(3, .int 0), (2, .ref (om 0)), (1, .ref (ob 0)), (0, .ref b)] []) : gj_G (D, tq_cl, [(cI, .int), (cB, .byte), (cS, .short), (cZ, .boolean)]) X Qq (gf_w (tc_u ob cI) ob tc_0 ++ gf_w (md_u om cI cB cS cZ) om (md_0 fl)) 155 1132377 798 [(3, .int 0), (2, .ref (om 0)), (1, .ref (ob 0)), (0, .ref b)] [] := by
  refine gj_aload_n hX 2 799 dw_L_law_798 rfl rfl rfl ?_
  refine gj_aload_n hX 3 800 dw_L_law_799 rfl rfl rfl ?_
  refine gj_iload_n hX 0 801 dw_L_law_800 rfl rfl rfl ?_
  refine gj_iconst hX 1 802 dw_L_law_801 (by decide) rfl ?_
  refine gj_iadd hX (nI 1) 803 (by decide) dw_L_law_802 rfl ?_
  refine gj_sld hX 1 804 hB rfl (by omega) (by omega) dw_L_law_803 rfl ?_
  refine gj_aload_n hX 3 805 dw_L_law_804 rfl rfl rfl ?_
  refine gj_iload_n hX 0 806 dw_L_law_805 rfl rfl rfl ?_
  refine gj_iconst hX 2 807 dw_L_law_806 (by decide) rfl ?_
  refine gj_iadd hX (nI 2) 808 (by decide) dw_L_law_807 rfl ?_
  refine gj_sld hX 2 809 hB rfl (by omega) (by omega) dw_L_law_808 rfl ?_
  obtain ⟨r, σ1, τ1, e1, e2⟩ := pr_clear fl ((xs 1)) ((xs 2))
  refine gj_swap ?_
  refine gj_callX (u := tc_u ob cI) (ob := ob) (tys' := [(cI, .int)]) (σ := tc_0) (σ' := σ1) (r := r) (st := []) hX [.int (xs 1), .int (xs 2)] 812 rfl (by rw [← e1]; exact tm_T_clear _ tc_0 ((xs 1)) ((xs 2))) (fun U h => h.sub [0] rfl) hy_T_clear tw_880 tw_877 tw_878 tw_879 tw_70 ⟨0, 0, (tf_0, 8), rfl, (tc_O ob tc_0 0).2, gf_wo 0 (show 0 < 55 by decide)⟩ ⟨(Nat.le_of_ble_eq_true rfl), (Nat.le_of_ble_eq_true rfl)⟩ (Nat.le_of_ble_eq_true rfl) (Nat.le_of_ble_eq_true rfl) (Nat.le_of_ble_eq_true rfl) dw_L_law_809 rfl rfl ?_
  refine gj_swap ?_
  refine gj_aload_n hX 1 813 dw_L_law_812 rfl rfl rfl ?_
  refine gj_aload_n hX 3 814 dw_L_law_813 rfl rfl rfl ?_
  refine gj_iload_n hX 0 815 dw_L_law_814 rfl rfl rfl ?_
  refine gj_iconst hX 1 816 dw_L_law_815 (by decide) rfl ?_
  refine gj_iadd hX (nI 1) 817 (by decide) dw_L_law_816 rfl ?_
  refine gj_sld hX 1 818 hB rfl (by omega) (by omega) dw_L_law_817 rfl ?_
  refine gj_aload_n hX 3 819 dw_L_law_818 rfl rfl rfl ?_
  refine gj_iload_n hX 0 820 dw_L_law_819 rfl rfl rfl ?_
  refine gj_iconst hX 2 821 dw_L_law_820 (by decide) rfl ?_
  refine gj_iadd hX (nI 2) 822 (by decide) dw_L_law_821 rfl ?_
  refine gj_sld hX 2 823 hB rfl (by omega) (by omega) dw_L_law_822 rfl ?_
  refine gj_callX (u := md_u om cI cB cS cZ) (ob := om) (tys' := [(cI, .int), (cB, .byte), (cS, .short), (cZ, .boolean)]) (σ := md_0 fl) (σ' := τ1) (r := r) (st := [.int r]) hX [.int (xs 1), .int (xs 2)] 826 rfl (by rw [← e2]; exact tm_M_clear _ (md_0 fl) ((xs 1)) ((xs 2))) (fun U h => h) hy_M_clear tw_1364 tw_1361 tw_1362 tw_1363 tw_79 ⟨0, 9, (tf_9, 73), rfl, (md_O om (md_0 fl) 0).2, gf_wo 0 (show 0 < 1 by decide)⟩ ⟨(Nat.le_of_ble_eq_true rfl), (Nat.le_of_ble_eq_true rfl)⟩ (Nat.le_of_ble_eq_true rfl) (Nat.le_of_ble_eq_true rfl) (Nat.le_of_ble_eq_true rfl) dw_L_law_823 rfl rfl ?_
  refine gj_icmp_eq hX 854 829 dw_L_law_826 (by decide) rfl (fun _ => ?_) (fun h => absurd rfl h)
  exact hE σ1 τ1
set_option maxRecDepth 100000 in
set_option maxHeartbeats 4000000 in
theorem lc_17 {D : va_G} {cI cB cS cZ : ClassId} {X : gx_X} {Qq : State → Prop} {ob om : Nat → Nat} {fl : Nat → Int32} {b L : Nat} {xs : Nat → Int32} (hX : gj_K (D, tq_cl, [(cI, .int), (cB, .byte), (cS, .short), (cZ, .boolean)]) X code "TypeLoomLaw" 4 11 460 600000 7302250) (hB : va_X b L xs X.1.2.2.2.2.1 X.1.2.2.2.2.1.heap ∧ b < X.1.2.2.2.2.1.heap.size ∧ ¬ X.2.1 b) (hL : L = 7) (hE : ∀ σ τ, gj_G (D, tq_cl, [(cI, .int), (cB, .byte), (cS, .short), (cZ, .boolean)]) X Qq (gf_w (tc_u ob cI) ob σ ++ gf_w (md_u om cI cB cS cZ) om τ) 155 1132377 854 [(3, .int 0), (2, .ref (om 0)), (1, .ref (ob 0)), (0, .ref b)] []) : gj_G (D, tq_cl, [(cI, .int), (cB, .byte), (cS, .short), (cZ, .boolean)]) X Qq (gf_w (tc_u ob cI) ob tc_0 ++ gf_w (md_u om cI cB cS cZ) om (md_0 fl)) 155 1132377 831 [(3, .int 0), (2, .ref (om 0)), (1, .ref (ob 0)), (0, .ref b)] [] := by
  refine gj_aload_n hX 2 832 dw_L_law_831 rfl rfl rfl ?_
  refine gj_aload_n hX 3 833 dw_L_law_832 rfl rfl rfl ?_
  refine gj_iload_n hX 0 834 dw_L_law_833 rfl rfl rfl ?_
  refine gj_iconst hX 1 835 dw_L_law_834 (by decide) rfl ?_
  refine gj_iadd hX (nI 1) 836 (by decide) dw_L_law_835 rfl ?_
  refine gj_sld hX 1 837 hB rfl (by omega) (by omega) dw_L_law_836 rfl ?_
  obtain ⟨r, σ1, τ1, e1, e2⟩ := pr_count fl ((xs 1))
  refine gj_swap ?_
  refine gj_callX (u := tc_u ob cI) (ob := ob) (tys' := [(cI, .int)]) (σ := tc_0) (σ' := σ1) (r := r) (st := []) hX [.int (xs 1)] 840 rfl (by rw [← e1]; exact tm_T_count _ tc_0 ((xs 1))) (fun U h => h.sub [0] rfl) hy_T_count tw_897 tw_894 tw_895 tw_896 tw_70 ⟨0, 0, (tf_0, 8), rfl, (tc_O ob tc_0 0).2, gf_wo 0 (show 0 < 55 by decide)⟩ ⟨(Nat.le_of_ble_eq_true rfl), (Nat.le_of_ble_eq_true rfl)⟩ (Nat.le_of_ble_eq_true rfl) (Nat.le_of_ble_eq_true rfl) (Nat.le_of_ble_eq_true rfl) dw_L_law_837 rfl rfl ?_
  refine gj_swap ?_
  refine gj_aload_n hX 1 841 dw_L_law_840 rfl rfl rfl ?_
  refine gj_aload_n hX 3 842 dw_L_law_841 rfl rfl rfl ?_
  refine gj_iload_n hX 0 843 dw_L_law_842 rfl rfl rfl ?_
  refine gj_iconst hX 1 844 dw_L_law_843 (by decide) rfl ?_
  refine gj_iadd hX (nI 1) 845 (by decide) dw_L_law_844 rfl ?_
  refine gj_sld hX 1 846 hB rfl (by omega) (by omega) dw_L_law_845 rfl ?_
  refine gj_callX (u := md_u om cI cB cS cZ) (ob := om) (tys' := [(cI, .int), (cB, .byte), (cS, .short), (cZ, .boolean)]) (σ := md_0 fl) (σ' := τ1) (r := r) (st := [.int r]) hX [.int (xs 1)] 849 rfl (by rw [← e2]; exact tm_M_count _ (md_0 fl) ((xs 1))) (fun U h => h) hy_M_count tw_1368 tw_1365 tw_1366 tw_1367 tw_79 ⟨0, 9, (tf_9, 73), rfl, (md_O om (md_0 fl) 0).2, gf_wo 0 (show 0 < 1 by decide)⟩ ⟨(Nat.le_of_ble_eq_true rfl), (Nat.le_of_ble_eq_true rfl)⟩ (Nat.le_of_ble_eq_true rfl) (Nat.le_of_ble_eq_true rfl) (Nat.le_of_ble_eq_true rfl) dw_L_law_846 rfl rfl ?_
  refine gj_icmp_eq hX 854 852 dw_L_law_849 (by decide) rfl (fun _ => ?_) (fun h => absurd rfl h)
  exact hE σ1 τ1
