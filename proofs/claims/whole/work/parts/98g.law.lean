def zPL : zP := fun v _ _ _ k n => v = some (.int 1) ∧ k ≤ 600000 ∧ n ≤ 7302250

set_option maxRecDepth 100000 in
set_option maxHeartbeats 4000000 in
theorem law_set (l : Launch) (D : zD) (B : Nat) {mn : String} {L : zL} {nx : Nat} {G : zG} {b S : Nat} {xs : Nat → Int32} {x i bd K N c tn : Nat} {r : Nat → Int32} {h : Nat → (Nat → Int32)} {sl : Nat → Option (Nat → Int32)} {T : Nat → Nat} (hB : B ≤ nx) (hx : x + 146 ≤ nx) (hnx : nx < x + 2 ^ 31) (hR : zRC L x nx G r h c sl T tn) (hM : zRM L (x + 134) G r h c sl T tn) (hLS : zLS bd r h c sl) (hbd : bd < 2 ^ 31 - 1) (hi : i + 4 ≤ S) (hS : S < 2 ^ 30) (hK : K + 15 ≤ 600000) (hN : N + 242 ≤ 7302250) (kk : ∀ (L' : zL) (nx' : Nat) (G' : zG), zLJ L' x nx' G' (bd + 7920) → nx ≤ nx' → nx' ≤ nx + 15 → zV l (lX B b S xs) D B RL mn cL_law 4 (some .boolean) room_1 zPL (K + 15) (N + 242) L' nx' 715 [some (.ref b), some (.ref x), some (.ref (x + 134)), some (.int (nI i))] [] G') : zV l (lX B b S xs) D B RL mn cL_law 4 (some .boolean) room_1 zPL (K) (N) L nx 132 [some (.ref b), some (.ref x), some (.ref (x + 134)), some (.int (nI i))] [] G := by
  refine zv_aload_n dL_law_132 rfl ?_
  refine zv_aload_n dL_law_133 rfl ?_
  refine zv_iload_n dL_law_134 rfl ?_
  refine zv_iconst (v := 1) dL_law_135 (by decide) ?_
  refine zv_iadd dL_law_136 ?_
  rw [show nI i + 1 = nI (i + 1) from nI_add i 1]
  refine zv_sld (by omega) (by omega) dL_law_137 ?_
  refine zv_aload_n dL_law_138 rfl ?_
  refine zv_iload_n dL_law_139 rfl ?_
  refine zv_iconst (v := 2) dL_law_140 (by decide) ?_
  refine zv_iadd dL_law_141 ?_
  rw [show nI i + 2 = nI (i + 2) from nI_add i 2]
  refine zv_sld (by omega) (by omega) dL_law_142 ?_
  refine zv_callV (m_X6_set l D B hR hLS.1 (xs (i + 1)) (xs (i + 2))) ml_L_13 in_X6_set sel_X6_set hR.1.1 rfl rfl rfl rfl (Nat.le_of_ble_eq_true rfl) dL_law_143 ⟨Nat.le_of_ble_eq_true rfl, Nat.le_of_ble_eq_true rfl⟩ ⟨(show _ ≤ 600000 by omega), (show _ ≤ 7302250 by omega)⟩ (zk_p fun G1 hG1 => ?_)
  have hM1 := zRM_to hM (fun b h => h) hG1.2
  refine zv_aload_n dL_law_146 rfl ?_
  refine zv_aload_n dL_law_147 rfl ?_
  refine zv_iload_n dL_law_148 rfl ?_
  refine zv_iconst (v := 1) dL_law_149 (by decide) ?_
  refine zv_iadd dL_law_150 ?_
  rw [show nI i + 1 = nI (i + 1) from nI_add i 1]
  refine zv_sld (by omega) (by omega) dL_law_151 ?_
  refine zv_aload_n dL_law_152 rfl ?_
  refine zv_iload_n dL_law_153 rfl ?_
  refine zv_iconst (v := 2) dL_law_154 (by decide) ?_
  refine zv_iadd dL_law_155 ?_
  rw [show nI i + 2 = nI (i + 2) from nI_add i 2]
  refine zv_sld (by omega) (by omega) dL_law_156 ?_
  refine zv_callV (m_X7_set l D B hM1 hLS.1 (xs (i + 1)) (xs (i + 2))) ml_L_17 in_X7_set sel_X7_set hM1.1 rfl rfl rfl rfl (Nat.le_of_ble_eq_true rfl) dL_law_157 ⟨Nat.le_of_ble_eq_true rfl, Nat.le_of_ble_eq_true rfl⟩ ⟨(show _ ≤ 600000 by omega), (show _ ≤ 7302250 by omega)⟩ (zk_p fun G2 hG2 => ?_)
  refine zv_icmp_eq (tgt := 715) dL_law_160 (by decide) (fun _ => ?_) (fun h => absurd (rfl) h)
  exact zv_widen (by omega) (by omega) (kk _ _ _ (zLJ_of hG1.1 hG2.1 hG2.2 (zLS_mono (zLS_chg hLS (Nat.le_refl _) (SI_set hLS.1)) (by omega))) (Nat.le_refl _) (by omega))

set_option maxRecDepth 100000 in
set_option maxHeartbeats 4000000 in
theorem law_chapter (l : Launch) (D : zD) (B : Nat) {mn : String} {L : zL} {nx : Nat} {G : zG} {b S : Nat} {xs : Nat → Int32} {x i bd K N c tn : Nat} {r : Nat → Int32} {h : Nat → (Nat → Int32)} {sl : Nat → Option (Nat → Int32)} {T : Nat → Nat} (hB : B ≤ nx) (hx : x + 146 ≤ nx) (hnx : nx < x + 2 ^ 31) (hR : zRC L x nx G r h c sl T tn) (hM : zRM L (x + 134) G r h c sl T tn) (hLS : zLS bd r h c sl) (hbd : bd < 2 ^ 31 - 1) (hi : i + 4 ≤ S) (hS : S < 2 ^ 30) (hK : K + 15 ≤ 600000) (hN : N + 242 ≤ 7302250) (kk : ∀ (L' : zL) (nx' : Nat) (G' : zG), zLJ L' x nx' G' (bd + 7920) → nx ≤ nx' → nx' ≤ nx + 15 → zV l (lX B b S xs) D B RL mn cL_law 4 (some .boolean) room_1 zPL (K + 15) (N + 242) L' nx' 715 [some (.ref b), some (.ref x), some (.ref (x + 134)), some (.int (nI i))] [] G') : zV l (lX B b S xs) D B RL mn cL_law 4 (some .boolean) room_1 zPL (K) (N) L nx 165 [some (.ref b), some (.ref x), some (.ref (x + 134)), some (.int (nI i))] [] G := by
  refine zv_aload_n dL_law_165 rfl ?_
  refine zv_aload_n dL_law_166 rfl ?_
  refine zv_iload_n dL_law_167 rfl ?_
  refine zv_iconst (v := 1) dL_law_168 (by decide) ?_
  refine zv_iadd dL_law_169 ?_
  rw [show nI i + 1 = nI (i + 1) from nI_add i 1]
  refine zv_sld (by omega) (by omega) dL_law_170 ?_
  refine zv_callV (m_X6_chapter l D B hR hLS.1 (xs (i + 1))) ml_L_18 in_X6_chapter sel_X6_chapter hR.1.1 rfl rfl rfl rfl (Nat.le_of_ble_eq_true rfl) dL_law_171 ⟨Nat.le_of_ble_eq_true rfl, Nat.le_of_ble_eq_true rfl⟩ ⟨(show _ ≤ 600000 by omega), (show _ ≤ 7302250 by omega)⟩ (zk_p fun G1 hG1 => ?_)
  have hM1 := zRM_to hM (fun b h => h) hG1.2
  refine zv_aload_n dL_law_174 rfl ?_
  refine zv_aload_n dL_law_175 rfl ?_
  refine zv_iload_n dL_law_176 rfl ?_
  refine zv_iconst (v := 1) dL_law_177 (by decide) ?_
  refine zv_iadd dL_law_178 ?_
  rw [show nI i + 1 = nI (i + 1) from nI_add i 1]
  refine zv_sld (by omega) (by omega) dL_law_179 ?_
  refine zv_callV (m_X7_chapter l D B hM1 hLS.1 (xs (i + 1))) ml_L_22 in_X7_chapter sel_X7_chapter hM1.1 rfl rfl rfl rfl (Nat.le_of_ble_eq_true rfl) dL_law_180 ⟨Nat.le_of_ble_eq_true rfl, Nat.le_of_ble_eq_true rfl⟩ ⟨(show _ ≤ 600000 by omega), (show _ ≤ 7302250 by omega)⟩ (zk_p fun G2 hG2 => ?_)
  refine zv_icmp_eq (tgt := 715) dL_law_183 (by decide) (fun _ => ?_) (fun h => absurd (rfl) h)
  exact zv_widen (by omega) (by omega) (kk _ _ _ (zLJ_of hG1.1 hG2.1 hG2.2 (zLS_mono (zLS_chg hLS (Nat.le_refl _) (SI_chapter hLS.1)) (by omega))) (Nat.le_refl _) (by omega))

set_option maxRecDepth 100000 in
set_option maxHeartbeats 4000000 in
theorem law_cup (l : Launch) (D : zD) (B : Nat) {mn : String} {L : zL} {nx : Nat} {G : zG} {b S : Nat} {xs : Nat → Int32} {x i bd K N c tn : Nat} {r : Nat → Int32} {h : Nat → (Nat → Int32)} {sl : Nat → Option (Nat → Int32)} {T : Nat → Nat} (hB : B ≤ nx) (hx : x + 146 ≤ nx) (hnx : nx < x + 2 ^ 31) (hR : zRC L x nx G r h c sl T tn) (hM : zRM L (x + 134) G r h c sl T tn) (hLS : zLS bd r h c sl) (hbd : bd < 2 ^ 31 - 1) (hi : i + 4 ≤ S) (hS : S < 2 ^ 30) (hK : K + 15 ≤ 600000) (hN : N + 242 ≤ 7302250) (kk : ∀ (L' : zL) (nx' : Nat) (G' : zG), zLJ L' x nx' G' (bd + 7920) → nx ≤ nx' → nx' ≤ nx + 15 → zV l (lX B b S xs) D B RL mn cL_law 4 (some .boolean) room_1 zPL (K + 15) (N + 242) L' nx' 715 [some (.ref b), some (.ref x), some (.ref (x + 134)), some (.int (nI i))] [] G') : zV l (lX B b S xs) D B RL mn cL_law 4 (some .boolean) room_1 zPL (K) (N) L nx 188 [some (.ref b), some (.ref x), some (.ref (x + 134)), some (.int (nI i))] [] G := by
  refine zv_aload_n dL_law_188 rfl ?_
  refine zv_callV (m_X6_cup l D B hR hLS.1 ) ml_L_23 in_X6_cup sel_X6_cup hR.1.1 rfl rfl rfl rfl (Nat.le_of_ble_eq_true rfl) dL_law_189 ⟨Nat.le_of_ble_eq_true rfl, Nat.le_of_ble_eq_true rfl⟩ ⟨(show _ ≤ 600000 by omega), (show _ ≤ 7302250 by omega)⟩ (zk_p fun G1 hG1 => ?_)
  have hM1 := zRM_to hM (fun b h => h) hG1.2
  refine zv_aload_n dL_law_192 rfl ?_
  refine zv_callV (m_X7_cup l D B hM1 hLS.1 ) ml_L_27 in_X7_cup sel_X7_cup hM1.1 rfl rfl rfl rfl (Nat.le_of_ble_eq_true rfl) dL_law_193 ⟨Nat.le_of_ble_eq_true rfl, Nat.le_of_ble_eq_true rfl⟩ ⟨(show _ ≤ 600000 by omega), (show _ ≤ 7302250 by omega)⟩ (zk_p fun G2 hG2 => ?_)
  refine zv_icmp_eq (tgt := 715) dL_law_196 (by decide) (fun _ => ?_) (fun h => absurd (rfl) h)
  exact zv_widen (by omega) (by omega) (kk _ _ _ (zLJ_of hG1.1 hG2.1 hG2.2 (zLS_mono (zLS_chg hLS (Nat.le_refl _) (SI_cup hLS.1)) (by omega))) (Nat.le_refl _) (by omega))

set_option maxRecDepth 100000 in
set_option maxHeartbeats 4000000 in
theorem law_empty (l : Launch) (D : zD) (B : Nat) {mn : String} {L : zL} {nx : Nat} {G : zG} {b S : Nat} {xs : Nat → Int32} {x i bd K N c tn : Nat} {r : Nat → Int32} {h : Nat → (Nat → Int32)} {sl : Nat → Option (Nat → Int32)} {T : Nat → Nat} (hB : B ≤ nx) (hx : x + 146 ≤ nx) (hnx : nx < x + 2 ^ 31) (hR : zRC L x nx G r h c sl T tn) (hM : zRM L (x + 134) G r h c sl T tn) (hLS : zLS bd r h c sl) (hbd : bd < 2 ^ 31 - 1) (hi : i + 4 ≤ S) (hS : S < 2 ^ 30) (hK : K + 15 ≤ 600000) (hN : N + 242 ≤ 7302250) (kk : ∀ (L' : zL) (nx' : Nat) (G' : zG), zLJ L' x nx' G' (bd + 7920) → nx ≤ nx' → nx' ≤ nx + 15 → zV l (lX B b S xs) D B RL mn cL_law 4 (some .boolean) room_1 zPL (K + 15) (N + 242) L' nx' 715 [some (.ref b), some (.ref x), some (.ref (x + 134)), some (.int (nI i))] [] G') : zV l (lX B b S xs) D B RL mn cL_law 4 (some .boolean) room_1 zPL (K) (N) L nx 201 [some (.ref b), some (.ref x), some (.ref (x + 134)), some (.int (nI i))] [] G := by
  refine zv_aload_n dL_law_201 rfl ?_
  refine zv_aload_n dL_law_202 rfl ?_
  refine zv_iload_n dL_law_203 rfl ?_
  refine zv_iconst (v := 1) dL_law_204 (by decide) ?_
  refine zv_iadd dL_law_205 ?_
  rw [show nI i + 1 = nI (i + 1) from nI_add i 1]
  refine zv_sld (by omega) (by omega) dL_law_206 ?_
  refine zv_callV (m_X6_empty l D B hR hLS.1 (xs (i + 1))) ml_L_28 in_X6_empty sel_X6_empty hR.1.1 rfl rfl rfl rfl (Nat.le_of_ble_eq_true rfl) dL_law_207 ⟨Nat.le_of_ble_eq_true rfl, Nat.le_of_ble_eq_true rfl⟩ ⟨(show _ ≤ 600000 by omega), (show _ ≤ 7302250 by omega)⟩ (zk_p fun G1 hG1 => ?_)
  have hM1 := zRM_to hM (fun b h => h) hG1.2
  refine zv_aload_n dL_law_210 rfl ?_
  refine zv_aload_n dL_law_211 rfl ?_
  refine zv_iload_n dL_law_212 rfl ?_
  refine zv_iconst (v := 1) dL_law_213 (by decide) ?_
  refine zv_iadd dL_law_214 ?_
  rw [show nI i + 1 = nI (i + 1) from nI_add i 1]
  refine zv_sld (by omega) (by omega) dL_law_215 ?_
  refine zv_callV (m_X7_empty l D B hM1 hLS.1 (xs (i + 1))) ml_L_31 in_X7_empty sel_X7_empty hM1.1 rfl rfl rfl rfl (Nat.le_of_ble_eq_true rfl) dL_law_216 ⟨Nat.le_of_ble_eq_true rfl, Nat.le_of_ble_eq_true rfl⟩ ⟨(show _ ≤ 600000 by omega), (show _ ≤ 7302250 by omega)⟩ (zk_p fun G2 hG2 => ?_)
  refine zv_icmp_eq (tgt := 715) dL_law_219 (by decide) (fun _ => ?_) (fun h => absurd (rfl) h)
  exact zv_widen (by omega) (by omega) (kk _ _ _ (zLJ_of hG1.1 hG2.1 hG2.2 (zLS_mono (zLS_chg hLS (Nat.le_refl _) (SI_empty hLS.1)) (by omega))) (Nat.le_refl _) (by omega))

set_option maxRecDepth 100000 in
set_option maxHeartbeats 4000000 in
theorem law_pour (l : Launch) (D : zD) (B : Nat) {mn : String} {L : zL} {nx : Nat} {G : zG} {b S : Nat} {xs : Nat → Int32} {x i bd K N c tn : Nat} {r : Nat → Int32} {h : Nat → (Nat → Int32)} {sl : Nat → Option (Nat → Int32)} {T : Nat → Nat} (hB : B ≤ nx) (hx : x + 146 ≤ nx) (hnx : nx < x + 2 ^ 31) (hR : zRC L x nx G r h c sl T tn) (hM : zRM L (x + 134) G r h c sl T tn) (hLS : zLS bd r h c sl) (hbd : bd < 2 ^ 31 - 1) (hi : i + 4 ≤ S) (hS : S < 2 ^ 30) (hK : K + 15 ≤ 600000) (hN : N + 242 ≤ 7302250) (kk : ∀ (L' : zL) (nx' : Nat) (G' : zG), zLJ L' x nx' G' (bd + 7920) → nx ≤ nx' → nx' ≤ nx + 15 → zV l (lX B b S xs) D B RL mn cL_law 4 (some .boolean) room_1 zPL (K + 15) (N + 242) L' nx' 715 [some (.ref b), some (.ref x), some (.ref (x + 134)), some (.int (nI i))] [] G') : zV l (lX B b S xs) D B RL mn cL_law 4 (some .boolean) room_1 zPL (K) (N) L nx 224 [some (.ref b), some (.ref x), some (.ref (x + 134)), some (.int (nI i))] [] G := by
  refine zv_aload_n dL_law_224 rfl ?_
  refine zv_aload_n dL_law_225 rfl ?_
  refine zv_iload_n dL_law_226 rfl ?_
  refine zv_iconst (v := 1) dL_law_227 (by decide) ?_
  refine zv_iadd dL_law_228 ?_
  rw [show nI i + 1 = nI (i + 1) from nI_add i 1]
  refine zv_sld (by omega) (by omega) dL_law_229 ?_
  refine zv_aload_n dL_law_230 rfl ?_
  refine zv_iload_n dL_law_231 rfl ?_
  refine zv_iconst (v := 2) dL_law_232 (by decide) ?_
  refine zv_iadd dL_law_233 ?_
  rw [show nI i + 2 = nI (i + 2) from nI_add i 2]
  refine zv_sld (by omega) (by omega) dL_law_234 ?_
  refine zv_aload_n dL_law_235 rfl ?_
  refine zv_iload_n dL_law_236 rfl ?_
  refine zv_iconst (v := 3) dL_law_237 (by decide) ?_
  refine zv_iadd dL_law_238 ?_
  rw [show nI i + 3 = nI (i + 3) from nI_add i 3]
  refine zv_sld (by omega) (by omega) dL_law_239 ?_
  refine zv_callV (m_X6_pour l D B hR hLS.1 (xs (i + 1)) (xs (i + 2)) (xs (i + 3))) ml_L_32 in_X6_pour sel_X6_pour hR.1.1 rfl rfl rfl rfl (Nat.le_of_ble_eq_true rfl) dL_law_240 ⟨Nat.le_of_ble_eq_true rfl, Nat.le_of_ble_eq_true rfl⟩ ⟨(show _ ≤ 600000 by omega), (show _ ≤ 7302250 by omega)⟩ (zk_p fun G1 hG1 => ?_)
  have hM1 := zRM_to hM (fun b h => h) hG1.2
  refine zv_aload_n dL_law_243 rfl ?_
  refine zv_aload_n dL_law_244 rfl ?_
  refine zv_iload_n dL_law_245 rfl ?_
  refine zv_iconst (v := 1) dL_law_246 (by decide) ?_
  refine zv_iadd dL_law_247 ?_
  rw [show nI i + 1 = nI (i + 1) from nI_add i 1]
  refine zv_sld (by omega) (by omega) dL_law_248 ?_
  refine zv_aload_n dL_law_249 rfl ?_
  refine zv_iload_n dL_law_250 rfl ?_
  refine zv_iconst (v := 2) dL_law_251 (by decide) ?_
  refine zv_iadd dL_law_252 ?_
  rw [show nI i + 2 = nI (i + 2) from nI_add i 2]
  refine zv_sld (by omega) (by omega) dL_law_253 ?_
  refine zv_aload_n dL_law_254 rfl ?_
  refine zv_iload_n dL_law_255 rfl ?_
  refine zv_iconst (v := 3) dL_law_256 (by decide) ?_
  refine zv_iadd dL_law_257 ?_
  rw [show nI i + 3 = nI (i + 3) from nI_add i 3]
  refine zv_sld (by omega) (by omega) dL_law_258 ?_
  refine zv_callV (m_X7_pour l D B hM1 hLS.1 (xs (i + 1)) (xs (i + 2)) (xs (i + 3))) ml_L_36 in_X7_pour sel_X7_pour hM1.1 rfl rfl rfl rfl (Nat.le_of_ble_eq_true rfl) dL_law_259 ⟨Nat.le_of_ble_eq_true rfl, Nat.le_of_ble_eq_true rfl⟩ ⟨(show _ ≤ 600000 by omega), (show _ ≤ 7302250 by omega)⟩ (zk_p fun G2 hG2 => ?_)
  refine zv_icmp_eq (tgt := 715) dL_law_262 (by decide) (fun _ => ?_) (fun h => absurd (rfl) h)
  exact zv_widen (by omega) (by omega) (kk _ _ _ (zLJ_of hG1.1 hG2.1 hG2.2 (zLS_mono (zLS_chg hLS (show bd ≤ bd + 99 by omega) (SI_pour hLS.1)) (by omega))) (Nat.le_refl _) (by omega))

set_option maxRecDepth 100000 in
set_option maxHeartbeats 4000000 in
theorem law_solve (l : Launch) (D : zD) (B : Nat) {mn : String} {L : zL} {nx : Nat} {G : zG} {b S : Nat} {xs : Nat → Int32} {x i bd K N c tn : Nat} {r : Nat → Int32} {h : Nat → (Nat → Int32)} {sl : Nat → Option (Nat → Int32)} {T : Nat → Nat} (hB : B ≤ nx) (hx : x + 146 ≤ nx) (hnx : nx < x + 2 ^ 31) (hR : zRC L x nx G r h c sl T tn) (hM : zRM L (x + 134) G r h c sl T tn) (hLS : zLS bd r h c sl) (hbd : bd < 2 ^ 31 - 1) (hi : i + 4 ≤ S) (hS : S < 2 ^ 30) (hK : K + 15 ≤ 600000) (hN : N + 242 ≤ 7302250) (kk : ∀ (L' : zL) (nx' : Nat) (G' : zG), zLJ L' x nx' G' (bd + 7920) → nx ≤ nx' → nx' ≤ nx + 15 → zV l (lX B b S xs) D B RL mn cL_law 4 (some .boolean) room_1 zPL (K + 15) (N + 242) L' nx' 715 [some (.ref b), some (.ref x), some (.ref (x + 134)), some (.int (nI i))] [] G') : zV l (lX B b S xs) D B RL mn cL_law 4 (some .boolean) room_1 zPL (K) (N) L nx 267 [some (.ref b), some (.ref x), some (.ref (x + 134)), some (.int (nI i))] [] G := by
  refine zv_aload_n dL_law_267 rfl ?_
  refine zv_aload_n dL_law_268 rfl ?_
  refine zv_iload_n dL_law_269 rfl ?_
  refine zv_iconst (v := 1) dL_law_270 (by decide) ?_
  refine zv_iadd dL_law_271 ?_
  rw [show nI i + 1 = nI (i + 1) from nI_add i 1]
  refine zv_sld (by omega) (by omega) dL_law_272 ?_
  refine zv_callV (m_X6_solve l D B hR hLS.1 (xs (i + 1))) ml_L_37 in_X6_solve sel_X6_solve hR.1.1 rfl rfl rfl rfl (Nat.le_of_ble_eq_true rfl) dL_law_273 ⟨Nat.le_of_ble_eq_true rfl, Nat.le_of_ble_eq_true rfl⟩ ⟨(show _ ≤ 600000 by omega), (show _ ≤ 7302250 by omega)⟩ (zk_p fun G1 hG1 => ?_)
  have hM1 := zRM_to hM (fun b h => h) hG1.2
  refine zv_aload_n dL_law_276 rfl ?_
  refine zv_aload_n dL_law_277 rfl ?_
  refine zv_iload_n dL_law_278 rfl ?_
  refine zv_iconst (v := 1) dL_law_279 (by decide) ?_
  refine zv_iadd dL_law_280 ?_
  rw [show nI i + 1 = nI (i + 1) from nI_add i 1]
  refine zv_sld (by omega) (by omega) dL_law_281 ?_
  refine zv_callV (m_X7_solve l D B hM1 hLS.1 (xs (i + 1))) ml_L_40 in_X7_solve sel_X7_solve hM1.1 rfl rfl rfl rfl (Nat.le_of_ble_eq_true rfl) dL_law_282 ⟨Nat.le_of_ble_eq_true rfl, Nat.le_of_ble_eq_true rfl⟩ ⟨(show _ ≤ 600000 by omega), (show _ ≤ 7302250 by omega)⟩ (zk_p fun G2 hG2 => ?_)
  refine zv_icmp_eq (tgt := 715) dL_law_285 (by decide) (fun _ => ?_) (fun h => absurd (rfl) h)
  exact zv_widen (by omega) (by omega) (kk _ _ _ (zLJ_of hG1.1 hG2.1 hG2.2 (zLS_mono (zLS_chg hLS (Nat.le_refl _) (SI_solve hLS.1)) (by omega))) (Nat.le_refl _) (by omega))

set_option maxRecDepth 100000 in
set_option maxHeartbeats 4000000 in
theorem law_droplet (l : Launch) (D : zD) (B : Nat) {mn : String} {L : zL} {nx : Nat} {G : zG} {b S : Nat} {xs : Nat → Int32} {x i bd K N c tn : Nat} {r : Nat → Int32} {h : Nat → (Nat → Int32)} {sl : Nat → Option (Nat → Int32)} {T : Nat → Nat} (hB : B ≤ nx) (hx : x + 146 ≤ nx) (hnx : nx < x + 2 ^ 31) (hR : zRC L x nx G r h c sl T tn) (hM : zRM L (x + 134) G r h c sl T tn) (hLS : zLS bd r h c sl) (hbd : bd < 2 ^ 31 - 1) (hi : i + 4 ≤ S) (hS : S < 2 ^ 30) (hK : K + 15 ≤ 600000) (hN : N + 242 ≤ 7302250) (kk : ∀ (L' : zL) (nx' : Nat) (G' : zG), zLJ L' x nx' G' (bd + 7920) → nx ≤ nx' → nx' ≤ nx + 15 → zV l (lX B b S xs) D B RL mn cL_law 4 (some .boolean) room_1 zPL (K + 15) (N + 242) L' nx' 715 [some (.ref b), some (.ref x), some (.ref (x + 134)), some (.int (nI i))] [] G') : zV l (lX B b S xs) D B RL mn cL_law 4 (some .boolean) room_1 zPL (K) (N) L nx 290 [some (.ref b), some (.ref x), some (.ref (x + 134)), some (.int (nI i))] [] G := by
  refine zv_aload_n dL_law_290 rfl ?_
  refine zv_aload_n dL_law_291 rfl ?_
  refine zv_iload_n dL_law_292 rfl ?_
  refine zv_iconst (v := 1) dL_law_293 (by decide) ?_
  refine zv_iadd dL_law_294 ?_
  rw [show nI i + 1 = nI (i + 1) from nI_add i 1]
  refine zv_sld (by omega) (by omega) dL_law_295 ?_
  refine zv_aload_n dL_law_296 rfl ?_
  refine zv_iload_n dL_law_297 rfl ?_
  refine zv_iconst (v := 2) dL_law_298 (by decide) ?_
  refine zv_iadd dL_law_299 ?_
  rw [show nI i + 2 = nI (i + 2) from nI_add i 2]
  refine zv_sld (by omega) (by omega) dL_law_300 ?_
  refine zv_callV (m_X6_droplet l D B hR.1 hR.2.1 hLS.1 (xs (i + 1)) (xs (i + 2))) ml_L_41 in_X6_droplet sel_X6_droplet hR.1.1 rfl rfl rfl rfl (Nat.le_of_ble_eq_true rfl) dL_law_301 ⟨Nat.le_of_ble_eq_true rfl, Nat.le_of_ble_eq_true rfl⟩ ⟨(show _ ≤ 600000 by omega), (show _ ≤ 7302250 by omega)⟩ (zk_p fun G1 hG1 => ?_)
  have hR2 := zRC_fr hR hG1.1 hG1.2
  have hM1 := zRM_to hM (fun b h => h) hR2.2
  have hR1 := hR2.1
  refine zv_aload_n dL_law_304 rfl ?_
  refine zv_aload_n dL_law_305 rfl ?_
  refine zv_iload_n dL_law_306 rfl ?_
  refine zv_iconst (v := 1) dL_law_307 (by decide) ?_
  refine zv_iadd dL_law_308 ?_
  rw [show nI i + 1 = nI (i + 1) from nI_add i 1]
  refine zv_sld (by omega) (by omega) dL_law_309 ?_
  refine zv_aload_n dL_law_310 rfl ?_
  refine zv_iload_n dL_law_311 rfl ?_
  refine zv_iconst (v := 2) dL_law_312 (by decide) ?_
  refine zv_iadd dL_law_313 ?_
  rw [show nI i + 2 = nI (i + 2) from nI_add i 2]
  refine zv_sld (by omega) (by omega) dL_law_314 ?_
  refine zv_callV (m_X7_droplet l D B hM1 hLS.1 (xs (i + 1)) (xs (i + 2))) ml_L_44 in_X7_droplet sel_X7_droplet hM1.1 rfl rfl rfl rfl (Nat.le_of_ble_eq_true rfl) dL_law_315 ⟨Nat.le_of_ble_eq_true rfl, Nat.le_of_ble_eq_true rfl⟩ ⟨(show _ ≤ 600000 by omega), (show _ ≤ 7302250 by omega)⟩ (zk_p fun G2 hG2 => ?_)
  refine zv_icmp_eq (tgt := 715) dL_law_318 (by decide) (fun _ => ?_) (fun h => absurd (rfl) h)
  exact zv_widen (by omega) (by omega) (kk _ _ _ (zLJ_of hR1 hG2.1 hG2.2 (zLS_mono hLS (by omega))) (Nat.le_refl _) (by omega))

set_option maxRecDepth 100000 in
set_option maxHeartbeats 4000000 in
theorem law_ofCup (l : Launch) (D : zD) (B : Nat) {mn : String} {L : zL} {nx : Nat} {G : zG} {b S : Nat} {xs : Nat → Int32} {x i bd K N c tn : Nat} {r : Nat → Int32} {h : Nat → (Nat → Int32)} {sl : Nat → Option (Nat → Int32)} {T : Nat → Nat} (hB : B ≤ nx) (hx : x + 146 ≤ nx) (hnx : nx < x + 2 ^ 31) (hR : zRC L x nx G r h c sl T tn) (hM : zRM L (x + 134) G r h c sl T tn) (hLS : zLS bd r h c sl) (hbd : bd < 2 ^ 31 - 1) (hi : i + 4 ≤ S) (hS : S < 2 ^ 30) (hK : K + 15 ≤ 600000) (hN : N + 242 ≤ 7302250) (kk : ∀ (L' : zL) (nx' : Nat) (G' : zG), zLJ L' x nx' G' (bd + 7920) → nx ≤ nx' → nx' ≤ nx + 15 → zV l (lX B b S xs) D B RL mn cL_law 4 (some .boolean) room_1 zPL (K + 15) (N + 242) L' nx' 715 [some (.ref b), some (.ref x), some (.ref (x + 134)), some (.int (nI i))] [] G') : zV l (lX B b S xs) D B RL mn cL_law 4 (some .boolean) room_1 zPL (K) (N) L nx 323 [some (.ref b), some (.ref x), some (.ref (x + 134)), some (.int (nI i))] [] G := by
  refine zv_aload_n dL_law_323 rfl ?_
  refine zv_aload_n dL_law_324 rfl ?_
  refine zv_iload_n dL_law_325 rfl ?_
  refine zv_iconst (v := 1) dL_law_326 (by decide) ?_
  refine zv_iadd dL_law_327 ?_
  rw [show nI i + 1 = nI (i + 1) from nI_add i 1]
  refine zv_sld (by omega) (by omega) dL_law_328 ?_
  refine zv_aload_n dL_law_329 rfl ?_
  refine zv_iload_n dL_law_330 rfl ?_
  refine zv_iconst (v := 2) dL_law_331 (by decide) ?_
  refine zv_iadd dL_law_332 ?_
  rw [show nI i + 2 = nI (i + 2) from nI_add i 2]
  refine zv_sld (by omega) (by omega) dL_law_333 ?_
  refine zv_callV (m_X6_ofCup l D B hR.1 hR.2.1 hLS.1 (xs (i + 1)) (xs (i + 2))) ml_L_45 in_X6_ofCup sel_X6_ofCup hR.1.1 rfl rfl rfl rfl (Nat.le_of_ble_eq_true rfl) dL_law_334 ⟨Nat.le_of_ble_eq_true rfl, Nat.le_of_ble_eq_true rfl⟩ ⟨(show _ ≤ 600000 by omega), (show _ ≤ 7302250 by omega)⟩ (zk_p fun G1 hG1 => ?_)
  have hR2 := zRC_fr hR hG1.1 hG1.2
  have hM1 := zRM_to hM (fun b h => h) hR2.2
  have hR1 := hR2.1
  refine zv_aload_n dL_law_337 rfl ?_
  refine zv_aload_n dL_law_338 rfl ?_
  refine zv_iload_n dL_law_339 rfl ?_
  refine zv_iconst (v := 1) dL_law_340 (by decide) ?_
  refine zv_iadd dL_law_341 ?_
  rw [show nI i + 1 = nI (i + 1) from nI_add i 1]
  refine zv_sld (by omega) (by omega) dL_law_342 ?_
  refine zv_aload_n dL_law_343 rfl ?_
  refine zv_iload_n dL_law_344 rfl ?_
  refine zv_iconst (v := 2) dL_law_345 (by decide) ?_
  refine zv_iadd dL_law_346 ?_
  rw [show nI i + 2 = nI (i + 2) from nI_add i 2]
  refine zv_sld (by omega) (by omega) dL_law_347 ?_
  refine zv_callV (m_X7_ofCup l D B hM1 hLS.1 (xs (i + 1)) (xs (i + 2))) ml_L_48 in_X7_ofCup sel_X7_ofCup hM1.1 rfl rfl rfl rfl (Nat.le_of_ble_eq_true rfl) dL_law_348 ⟨Nat.le_of_ble_eq_true rfl, Nat.le_of_ble_eq_true rfl⟩ ⟨(show _ ≤ 600000 by omega), (show _ ≤ 7302250 by omega)⟩ (zk_p fun G2 hG2 => ?_)
  refine zv_icmp_eq (tgt := 715) dL_law_351 (by decide) (fun _ => ?_) (fun h => absurd (rfl) h)
  exact zv_widen (by omega) (by omega) (kk _ _ _ (zLJ_of hR1 hG2.1 hG2.2 (zLS_mono hLS (by omega))) (Nat.le_refl _) (by omega))

set_option maxRecDepth 100000 in
set_option maxHeartbeats 4000000 in
theorem law_known (l : Launch) (D : zD) (B : Nat) {mn : String} {L : zL} {nx : Nat} {G : zG} {b S : Nat} {xs : Nat → Int32} {x i bd K N c tn : Nat} {r : Nat → Int32} {h : Nat → (Nat → Int32)} {sl : Nat → Option (Nat → Int32)} {T : Nat → Nat} (hB : B ≤ nx) (hx : x + 146 ≤ nx) (hnx : nx < x + 2 ^ 31) (hR : zRC L x nx G r h c sl T tn) (hM : zRM L (x + 134) G r h c sl T tn) (hLS : zLS bd r h c sl) (hbd : bd < 2 ^ 31 - 1) (hi : i + 4 ≤ S) (hS : S < 2 ^ 30) (hK : K + 15 ≤ 600000) (hN : N + 242 ≤ 7302250) (kk : ∀ (L' : zL) (nx' : Nat) (G' : zG), zLJ L' x nx' G' (bd + 7920) → nx ≤ nx' → nx' ≤ nx + 15 → zV l (lX B b S xs) D B RL mn cL_law 4 (some .boolean) room_1 zPL (K + 15) (N + 242) L' nx' 715 [some (.ref b), some (.ref x), some (.ref (x + 134)), some (.int (nI i))] [] G') : zV l (lX B b S xs) D B RL mn cL_law 4 (some .boolean) room_1 zPL (K) (N) L nx 356 [some (.ref b), some (.ref x), some (.ref (x + 134)), some (.int (nI i))] [] G := by
  refine zv_aload_n dL_law_356 rfl ?_
  refine zv_aload_n dL_law_357 rfl ?_
  refine zv_iload_n dL_law_358 rfl ?_
  refine zv_iconst (v := 1) dL_law_359 (by decide) ?_
  refine zv_iadd dL_law_360 ?_
  rw [show nI i + 1 = nI (i + 1) from nI_add i 1]
  refine zv_sld (by omega) (by omega) dL_law_361 ?_
  refine zv_aload_n dL_law_362 rfl ?_
  refine zv_iload_n dL_law_363 rfl ?_
  refine zv_iconst (v := 2) dL_law_364 (by decide) ?_
  refine zv_iadd dL_law_365 ?_
  rw [show nI i + 2 = nI (i + 2) from nI_add i 2]
  refine zv_sld (by omega) (by omega) dL_law_366 ?_
  refine zv_callV (m_X6_known l D B hR.1 hR.2.1 hLS.1 (xs (i + 1)) (xs (i + 2))) ml_L_49 in_X6_known sel_X6_known hR.1.1 rfl rfl rfl rfl (Nat.le_of_ble_eq_true rfl) dL_law_367 ⟨Nat.le_of_ble_eq_true rfl, Nat.le_of_ble_eq_true rfl⟩ ⟨(show _ ≤ 600000 by omega), (show _ ≤ 7302250 by omega)⟩ (zk_p fun G1 hG1 => ?_)
  have hR2 := zRC_fr hR hG1.1 hG1.2
  have hM1 := zRM_to hM (fun b h => h) hR2.2
  have hR1 := hR2.1
  refine zv_aload_n dL_law_370 rfl ?_
  refine zv_aload_n dL_law_371 rfl ?_
  refine zv_iload_n dL_law_372 rfl ?_
  refine zv_iconst (v := 1) dL_law_373 (by decide) ?_
  refine zv_iadd dL_law_374 ?_
  rw [show nI i + 1 = nI (i + 1) from nI_add i 1]
  refine zv_sld (by omega) (by omega) dL_law_375 ?_
  refine zv_aload_n dL_law_376 rfl ?_
  refine zv_iload_n dL_law_377 rfl ?_
  refine zv_iconst (v := 2) dL_law_378 (by decide) ?_
  refine zv_iadd dL_law_379 ?_
  rw [show nI i + 2 = nI (i + 2) from nI_add i 2]
  refine zv_sld (by omega) (by omega) dL_law_380 ?_
  refine zv_callV (m_X7_known l D B hM1 hLS.1 (xs (i + 1)) (xs (i + 2))) ml_L_52 in_X7_known sel_X7_known hM1.1 rfl rfl rfl rfl (Nat.le_of_ble_eq_true rfl) dL_law_381 ⟨Nat.le_of_ble_eq_true rfl, Nat.le_of_ble_eq_true rfl⟩ ⟨(show _ ≤ 600000 by omega), (show _ ≤ 7302250 by omega)⟩ (zk_i ?_)
  refine zv_icmp_eq (tgt := 715) dL_law_384 (by decide) (fun _ => ?_) (fun h => absurd (rfl) h)
  exact zv_widen (by omega) (by omega) (kk _ _ _ (zLJ_of hR1 hM1 (fun y hy => rfl) (zLS_mono hLS (by omega))) (Nat.le_refl _) (by omega))

set_option maxRecDepth 100000 in
set_option maxHeartbeats 4000000 in
theorem law_kept (l : Launch) (D : zD) (B : Nat) {mn : String} {L : zL} {nx : Nat} {G : zG} {b S : Nat} {xs : Nat → Int32} {x i bd K N c tn : Nat} {r : Nat → Int32} {h : Nat → (Nat → Int32)} {sl : Nat → Option (Nat → Int32)} {T : Nat → Nat} (hB : B ≤ nx) (hx : x + 146 ≤ nx) (hnx : nx < x + 2 ^ 31) (hR : zRC L x nx G r h c sl T tn) (hM : zRM L (x + 134) G r h c sl T tn) (hLS : zLS bd r h c sl) (hbd : bd < 2 ^ 31 - 1) (hi : i + 4 ≤ S) (hS : S < 2 ^ 30) (hK : K + 15 ≤ 600000) (hN : N + 242 ≤ 7302250) (kk : ∀ (L' : zL) (nx' : Nat) (G' : zG), zLJ L' x nx' G' (bd + 7920) → nx ≤ nx' → nx' ≤ nx + 15 → zV l (lX B b S xs) D B RL mn cL_law 4 (some .boolean) room_1 zPL (K + 15) (N + 242) L' nx' 715 [some (.ref b), some (.ref x), some (.ref (x + 134)), some (.int (nI i))] [] G') : zV l (lX B b S xs) D B RL mn cL_law 4 (some .boolean) room_1 zPL (K) (N) L nx 389 [some (.ref b), some (.ref x), some (.ref (x + 134)), some (.int (nI i))] [] G := by
  refine zv_aload_n dL_law_389 rfl ?_
  refine zv_aload_n dL_law_390 rfl ?_
  refine zv_iload_n dL_law_391 rfl ?_
  refine zv_iconst (v := 1) dL_law_392 (by decide) ?_
  refine zv_iadd dL_law_393 ?_
  rw [show nI i + 1 = nI (i + 1) from nI_add i 1]
  refine zv_sld (by omega) (by omega) dL_law_394 ?_
  refine zv_aload_n dL_law_395 rfl ?_
  refine zv_iload_n dL_law_396 rfl ?_
  refine zv_iconst (v := 2) dL_law_397 (by decide) ?_
  refine zv_iadd dL_law_398 ?_
  rw [show nI i + 2 = nI (i + 2) from nI_add i 2]
  refine zv_sld (by omega) (by omega) dL_law_399 ?_
  refine zv_aload_n dL_law_400 rfl ?_
  refine zv_iload_n dL_law_401 rfl ?_
  refine zv_iconst (v := 3) dL_law_402 (by decide) ?_
  refine zv_iadd dL_law_403 ?_
  rw [show nI i + 3 = nI (i + 3) from nI_add i 3]
  refine zv_sld (by omega) (by omega) dL_law_404 ?_
  refine zv_callV (m_X6_kept l D B hR.1 hR.2.1 hLS.1 (xs (i + 1)) (xs (i + 2)) (xs (i + 3))) ml_L_53 in_X6_kept sel_X6_kept hR.1.1 rfl rfl rfl rfl (Nat.le_of_ble_eq_true rfl) dL_law_405 ⟨Nat.le_of_ble_eq_true rfl, Nat.le_of_ble_eq_true rfl⟩ ⟨(show _ ≤ 600000 by omega), (show _ ≤ 7302250 by omega)⟩ (zk_p fun G1 hG1 => ?_)
  have hR2 := zRC_fr hR hG1.1 hG1.2
  have hM1 := zRM_to hM (fun b h => h) hR2.2
  have hR1 := hR2.1
  refine zv_aload_n dL_law_408 rfl ?_
  refine zv_aload_n dL_law_409 rfl ?_
  refine zv_iload_n dL_law_410 rfl ?_
  refine zv_iconst (v := 1) dL_law_411 (by decide) ?_
  refine zv_iadd dL_law_412 ?_
  rw [show nI i + 1 = nI (i + 1) from nI_add i 1]
  refine zv_sld (by omega) (by omega) dL_law_413 ?_
  refine zv_aload_n dL_law_414 rfl ?_
  refine zv_iload_n dL_law_415 rfl ?_
  refine zv_iconst (v := 2) dL_law_416 (by decide) ?_
  refine zv_iadd dL_law_417 ?_
  rw [show nI i + 2 = nI (i + 2) from nI_add i 2]
  refine zv_sld (by omega) (by omega) dL_law_418 ?_
  refine zv_aload_n dL_law_419 rfl ?_
  refine zv_iload_n dL_law_420 rfl ?_
  refine zv_iconst (v := 3) dL_law_421 (by decide) ?_
  refine zv_iadd dL_law_422 ?_
  rw [show nI i + 3 = nI (i + 3) from nI_add i 3]
  refine zv_sld (by omega) (by omega) dL_law_423 ?_
  refine zv_callV (m_X7_kept l D B hM1 hLS.1 (xs (i + 1)) (xs (i + 2)) (xs (i + 3))) ml_L_56 in_X7_kept sel_X7_kept hM1.1 rfl rfl rfl rfl (Nat.le_of_ble_eq_true rfl) dL_law_424 ⟨Nat.le_of_ble_eq_true rfl, Nat.le_of_ble_eq_true rfl⟩ ⟨(show _ ≤ 600000 by omega), (show _ ≤ 7302250 by omega)⟩ (zk_i ?_)
  refine zv_icmp_eq (tgt := 715) dL_law_427 (by decide) (fun _ => ?_) (fun h => absurd (rfl) h)
  exact zv_widen (by omega) (by omega) (kk _ _ _ (zLJ_of hR1 hM1 (fun y hy => rfl) (zLS_mono hLS (by omega))) (Nat.le_refl _) (by omega))

set_option maxRecDepth 100000 in
set_option maxHeartbeats 4000000 in
theorem law_count (l : Launch) (D : zD) (B : Nat) {mn : String} {L : zL} {nx : Nat} {G : zG} {b S : Nat} {xs : Nat → Int32} {x i bd K N c tn : Nat} {r : Nat → Int32} {h : Nat → (Nat → Int32)} {sl : Nat → Option (Nat → Int32)} {T : Nat → Nat} (hB : B ≤ nx) (hx : x + 146 ≤ nx) (hnx : nx < x + 2 ^ 31) (hR : zRC L x nx G r h c sl T tn) (hM : zRM L (x + 134) G r h c sl T tn) (hLS : zLS bd r h c sl) (hbd : bd < 2 ^ 31 - 1) (hi : i + 4 ≤ S) (hS : S < 2 ^ 30) (hK : K + 15 ≤ 600000) (hN : N + 242 ≤ 7302250) (kk : ∀ (L' : zL) (nx' : Nat) (G' : zG), zLJ L' x nx' G' (bd + 7920) → nx ≤ nx' → nx' ≤ nx + 15 → zV l (lX B b S xs) D B RL mn cL_law 4 (some .boolean) room_1 zPL (K + 15) (N + 242) L' nx' 715 [some (.ref b), some (.ref x), some (.ref (x + 134)), some (.int (nI i))] [] G') : zV l (lX B b S xs) D B RL mn cL_law 4 (some .boolean) room_1 zPL (K) (N) L nx 432 [some (.ref b), some (.ref x), some (.ref (x + 134)), some (.int (nI i))] [] G := by
  refine zv_aload_n dL_law_432 rfl ?_
  refine zv_aload_n dL_law_433 rfl ?_
  refine zv_iload_n dL_law_434 rfl ?_
  refine zv_iconst (v := 1) dL_law_435 (by decide) ?_
  refine zv_iadd dL_law_436 ?_
  rw [show nI i + 1 = nI (i + 1) from nI_add i 1]
  refine zv_sld (by omega) (by omega) dL_law_437 ?_
  refine zv_callV (m_X6_count l D B hR.1 hR.2.1 hLS.1 (xs (i + 1)) (nI tn) (nI c) hR.2.2.2.2.2.2.1 hR.2.2.1.choose_spec.2.2.1) ml_L_57 in_X6_count sel_X6_count hR.1.1 rfl rfl rfl rfl (Nat.le_of_ble_eq_true rfl) dL_law_438 ⟨Nat.le_of_ble_eq_true rfl, Nat.le_of_ble_eq_true rfl⟩ ⟨(show _ ≤ 600000 by omega), (show _ ≤ 7302250 by omega)⟩ (zk_p fun G1 hG1 => ?_)
  have hR2 := zRC_fr hR hG1.1 hG1.2
  have hM1 := zRM_to hM (fun b h => h) hR2.2
  have hR1 := hR2.1
  refine zv_aload_n dL_law_441 rfl ?_
  refine zv_aload_n dL_law_442 rfl ?_
  refine zv_iload_n dL_law_443 rfl ?_
  refine zv_iconst (v := 1) dL_law_444 (by decide) ?_
  refine zv_iadd dL_law_445 ?_
  rw [show nI i + 1 = nI (i + 1) from nI_add i 1]
  refine zv_sld (by omega) (by omega) dL_law_446 ?_
  refine zv_callV (m_X7_count l D B hM1 hLS.1 (xs (i + 1))) ml_L_60 in_X7_count sel_X7_count hM1.1 rfl rfl rfl rfl (Nat.le_of_ble_eq_true rfl) dL_law_447 ⟨Nat.le_of_ble_eq_true rfl, Nat.le_of_ble_eq_true rfl⟩ ⟨(show _ ≤ 600000 by omega), (show _ ≤ 7302250 by omega)⟩ (zk_i ?_)
  refine zv_icmp_eq (tgt := 715) dL_law_450 (by decide) (fun _ => ?_) (fun h => absurd (rfl) h)
  exact zv_widen (by omega) (by omega) (kk _ _ _ (zLJ_of hR1 hM1 (fun y hy => rfl) (zLS_mono hLS (by omega))) (Nat.le_refl _) (by omega))

set_option maxRecDepth 100000 in
set_option maxHeartbeats 4000000 in
theorem law_would (l : Launch) (D : zD) (B : Nat) {mn : String} {L : zL} {nx : Nat} {G : zG} {b S : Nat} {xs : Nat → Int32} {x i bd K N c tn : Nat} {r : Nat → Int32} {h : Nat → (Nat → Int32)} {sl : Nat → Option (Nat → Int32)} {T : Nat → Nat} (hB : B ≤ nx) (hx : x + 146 ≤ nx) (hnx : nx < x + 2 ^ 31) (hR : zRC L x nx G r h c sl T tn) (hM : zRM L (x + 134) G r h c sl T tn) (hLS : zLS bd r h c sl) (hbd : bd < 2 ^ 31 - 1) (hi : i + 4 ≤ S) (hS : S < 2 ^ 30) (hK : K + 15 ≤ 600000) (hN : N + 242 ≤ 7302250) (kk : ∀ (L' : zL) (nx' : Nat) (G' : zG), zLJ L' x nx' G' (bd + 7920) → nx ≤ nx' → nx' ≤ nx + 15 → zV l (lX B b S xs) D B RL mn cL_law 4 (some .boolean) room_1 zPL (K + 15) (N + 242) L' nx' 715 [some (.ref b), some (.ref x), some (.ref (x + 134)), some (.int (nI i))] [] G') : zV l (lX B b S xs) D B RL mn cL_law 4 (some .boolean) room_1 zPL (K) (N) L nx 455 [some (.ref b), some (.ref x), some (.ref (x + 134)), some (.int (nI i))] [] G := by
  refine zv_aload_n dL_law_455 rfl ?_
  refine zv_aload_n dL_law_456 rfl ?_
  refine zv_iload_n dL_law_457 rfl ?_
  refine zv_iconst (v := 1) dL_law_458 (by decide) ?_
  refine zv_iadd dL_law_459 ?_
  rw [show nI i + 1 = nI (i + 1) from nI_add i 1]
  refine zv_sld (by omega) (by omega) dL_law_460 ?_
  refine zv_aload_n dL_law_461 rfl ?_
  refine zv_iload_n dL_law_462 rfl ?_
  refine zv_iconst (v := 2) dL_law_463 (by decide) ?_
  refine zv_iadd dL_law_464 ?_
  rw [show nI i + 2 = nI (i + 2) from nI_add i 2]
  refine zv_sld (by omega) (by omega) dL_law_465 ?_
  refine zv_callV (m_X6_would l D B hR.1 hR.2.1 hLS.1 (xs (i + 1)) (xs (i + 2))) ml_L_61 in_X6_would sel_X6_would hR.1.1 rfl rfl rfl rfl (Nat.le_of_ble_eq_true rfl) dL_law_466 ⟨Nat.le_of_ble_eq_true rfl, Nat.le_of_ble_eq_true rfl⟩ ⟨(show _ ≤ 600000 by omega), (show _ ≤ 7302250 by omega)⟩ (zk_p fun G1 hG1 => ?_)
  have hR2 := zRC_fr hR hG1.1 hG1.2
  have hM1 := zRM_to hM (fun b h => h) hR2.2
  have hR1 := hR2.1
  refine zv_aload_n dL_law_469 rfl ?_
  refine zv_aload_n dL_law_470 rfl ?_
  refine zv_iload_n dL_law_471 rfl ?_
  refine zv_iconst (v := 1) dL_law_472 (by decide) ?_
  refine zv_iadd dL_law_473 ?_
  rw [show nI i + 1 = nI (i + 1) from nI_add i 1]
  refine zv_sld (by omega) (by omega) dL_law_474 ?_
  refine zv_aload_n dL_law_475 rfl ?_
  refine zv_iload_n dL_law_476 rfl ?_
  refine zv_iconst (v := 2) dL_law_477 (by decide) ?_
  refine zv_iadd dL_law_478 ?_
  rw [show nI i + 2 = nI (i + 2) from nI_add i 2]
  refine zv_sld (by omega) (by omega) dL_law_479 ?_
  refine zv_callV (m_X7_would l D B hM1 hLS.1 hbd (xs (i + 1)) (xs (i + 2))) ml_L_64 in_X7_would sel_X7_would hM1.1 rfl rfl rfl rfl (Nat.le_of_ble_eq_true rfl) dL_law_480 ⟨Nat.le_of_ble_eq_true rfl, Nat.le_of_ble_eq_true rfl⟩ ⟨(show _ ≤ 600000 by omega), (show _ ≤ 7302250 by omega)⟩ (zk_p fun G2 hG2 => ?_)
  refine zv_icmp_eq (tgt := 715) dL_law_483 (by decide) (fun _ => ?_) (fun h => absurd (rfl) h)
  exact zv_widen (by omega) (by omega) (kk _ _ _ (zLJ_of hR1 hG2.1 hG2.2 (zLS_mono hLS (by omega))) (Nat.le_refl _) (by omega))

set_option maxRecDepth 100000 in
set_option maxHeartbeats 4000000 in
theorem law_needs (l : Launch) (D : zD) (B : Nat) {mn : String} {L : zL} {nx : Nat} {G : zG} {b S : Nat} {xs : Nat → Int32} {x i bd K N c tn : Nat} {r : Nat → Int32} {h : Nat → (Nat → Int32)} {sl : Nat → Option (Nat → Int32)} {T : Nat → Nat} (hB : B ≤ nx) (hx : x + 146 ≤ nx) (hnx : nx < x + 2 ^ 31) (hR : zRC L x nx G r h c sl T tn) (hM : zRM L (x + 134) G r h c sl T tn) (hLS : zLS bd r h c sl) (hbd : bd < 2 ^ 31 - 1) (hi : i + 4 ≤ S) (hS : S < 2 ^ 30) (hK : K + 15 ≤ 600000) (hN : N + 242 ≤ 7302250) (kk : ∀ (L' : zL) (nx' : Nat) (G' : zG), zLJ L' x nx' G' (bd + 7920) → nx ≤ nx' → nx' ≤ nx + 15 → zV l (lX B b S xs) D B RL mn cL_law 4 (some .boolean) room_1 zPL (K + 15) (N + 242) L' nx' 715 [some (.ref b), some (.ref x), some (.ref (x + 134)), some (.int (nI i))] [] G') : zV l (lX B b S xs) D B RL mn cL_law 4 (some .boolean) room_1 zPL (K) (N) L nx 488 [some (.ref b), some (.ref x), some (.ref (x + 134)), some (.int (nI i))] [] G := by
  refine zv_aload_n dL_law_488 rfl ?_
  refine zv_aload_n dL_law_489 rfl ?_
  refine zv_iload_n dL_law_490 rfl ?_
  refine zv_iconst (v := 1) dL_law_491 (by decide) ?_
  refine zv_iadd dL_law_492 ?_
  rw [show nI i + 1 = nI (i + 1) from nI_add i 1]
  refine zv_sld (by omega) (by omega) dL_law_493 ?_
  refine zv_aload_n dL_law_494 rfl ?_
  refine zv_iload_n dL_law_495 rfl ?_
  refine zv_iconst (v := 2) dL_law_496 (by decide) ?_
  refine zv_iadd dL_law_497 ?_
  rw [show nI i + 2 = nI (i + 2) from nI_add i 2]
  refine zv_sld (by omega) (by omega) dL_law_498 ?_
  refine zv_callV (m_X6_needs l D B hR.1 hR.2.1 hLS.1 (xs (i + 1)) (xs (i + 2))) ml_L_65 in_X6_needs sel_X6_needs hR.1.1 rfl rfl rfl rfl (Nat.le_of_ble_eq_true rfl) dL_law_499 ⟨Nat.le_of_ble_eq_true rfl, Nat.le_of_ble_eq_true rfl⟩ ⟨(show _ ≤ 600000 by omega), (show _ ≤ 7302250 by omega)⟩ (zk_p fun G1 hG1 => ?_)
  have hR2 := zRC_fr hR hG1.1 hG1.2
  have hM1 := zRM_to hM (fun b h => h) hR2.2
  have hR1 := hR2.1
  refine zv_aload_n dL_law_502 rfl ?_
  refine zv_aload_n dL_law_503 rfl ?_
  refine zv_iload_n dL_law_504 rfl ?_
  refine zv_iconst (v := 1) dL_law_505 (by decide) ?_
  refine zv_iadd dL_law_506 ?_
  rw [show nI i + 1 = nI (i + 1) from nI_add i 1]
  refine zv_sld (by omega) (by omega) dL_law_507 ?_
  refine zv_aload_n dL_law_508 rfl ?_
  refine zv_iload_n dL_law_509 rfl ?_
  refine zv_iconst (v := 2) dL_law_510 (by decide) ?_
  refine zv_iadd dL_law_511 ?_
  rw [show nI i + 2 = nI (i + 2) from nI_add i 2]
  refine zv_sld (by omega) (by omega) dL_law_512 ?_
  refine zv_callV (m_X7_needs l D B hM1 hLS.1 (xs (i + 1)) (xs (i + 2))) ml_L_68 in_X7_needs sel_X7_needs hM1.1 rfl rfl rfl rfl (Nat.le_of_ble_eq_true rfl) dL_law_513 ⟨Nat.le_of_ble_eq_true rfl, Nat.le_of_ble_eq_true rfl⟩ ⟨(show _ ≤ 600000 by omega), (show _ ≤ 7302250 by omega)⟩ (zk_p fun G2 hG2 => ?_)
  refine zv_icmp_eq (tgt := 715) dL_law_516 (by decide) (fun _ => ?_) (fun h => absurd (rfl) h)
  exact zv_widen (by omega) (by omega) (kk _ _ _ (zLJ_of hR1 hG2.1 hG2.2 (zLS_mono hLS (by omega))) (Nat.le_refl _) (by omega))

set_option maxRecDepth 100000 in
set_option maxHeartbeats 4000000 in
theorem law_degrees (l : Launch) (D : zD) (B : Nat) {mn : String} {L : zL} {nx : Nat} {G : zG} {b S : Nat} {xs : Nat → Int32} {x i bd K N c tn : Nat} {r : Nat → Int32} {h : Nat → (Nat → Int32)} {sl : Nat → Option (Nat → Int32)} {T : Nat → Nat} (hB : B ≤ nx) (hx : x + 146 ≤ nx) (hnx : nx < x + 2 ^ 31) (hR : zRC L x nx G r h c sl T tn) (hM : zRM L (x + 134) G r h c sl T tn) (hLS : zLS bd r h c sl) (hbd : bd < 2 ^ 31 - 1) (hi : i + 4 ≤ S) (hS : S < 2 ^ 30) (hK : K + 15 ≤ 600000) (hN : N + 242 ≤ 7302250) (kk : ∀ (L' : zL) (nx' : Nat) (G' : zG), zLJ L' x nx' G' (bd + 7920) → nx ≤ nx' → nx' ≤ nx + 15 → zV l (lX B b S xs) D B RL mn cL_law 4 (some .boolean) room_1 zPL (K + 15) (N + 242) L' nx' 715 [some (.ref b), some (.ref x), some (.ref (x + 134)), some (.int (nI i))] [] G') : zV l (lX B b S xs) D B RL mn cL_law 4 (some .boolean) room_1 zPL (K) (N) L nx 521 [some (.ref b), some (.ref x), some (.ref (x + 134)), some (.int (nI i))] [] G := by
  refine zv_aload_n dL_law_521 rfl ?_
  refine zv_aload_n dL_law_522 rfl ?_
  refine zv_iload_n dL_law_523 rfl ?_
  refine zv_iconst (v := 1) dL_law_524 (by decide) ?_
  refine zv_iadd dL_law_525 ?_
  rw [show nI i + 1 = nI (i + 1) from nI_add i 1]
  refine zv_sld (by omega) (by omega) dL_law_526 ?_
  refine zv_aload_n dL_law_527 rfl ?_
  refine zv_iload_n dL_law_528 rfl ?_
  refine zv_iconst (v := 2) dL_law_529 (by decide) ?_
  refine zv_iadd dL_law_530 ?_
  rw [show nI i + 2 = nI (i + 2) from nI_add i 2]
  refine zv_sld (by omega) (by omega) dL_law_531 ?_
  refine zv_aload_n dL_law_532 rfl ?_
  refine zv_iload_n dL_law_533 rfl ?_
  refine zv_iconst (v := 3) dL_law_534 (by decide) ?_
  refine zv_iadd dL_law_535 ?_
  rw [show nI i + 3 = nI (i + 3) from nI_add i 3]
  refine zv_sld (by omega) (by omega) dL_law_536 ?_
  refine zv_callV (m_X6_degrees l D B hR.1 hR.2.1 hLS.1 (xs (i + 1)) (xs (i + 2)) (xs (i + 3))) ml_L_69 in_X6_degrees sel_X6_degrees hR.1.1 rfl rfl rfl rfl (Nat.le_of_ble_eq_true rfl) dL_law_537 ⟨Nat.le_of_ble_eq_true rfl, Nat.le_of_ble_eq_true rfl⟩ ⟨(show _ ≤ 600000 by omega), (show _ ≤ 7302250 by omega)⟩ (zk_p fun G1 hG1 => ?_)
  have hR2 := zRC_fr hR hG1.1 hG1.2
  have hM1 := zRM_to hM (fun b h => h) hR2.2
  have hR1 := hR2.1
  refine zv_aload_n dL_law_540 rfl ?_
  refine zv_aload_n dL_law_541 rfl ?_
  refine zv_iload_n dL_law_542 rfl ?_
  refine zv_iconst (v := 1) dL_law_543 (by decide) ?_
  refine zv_iadd dL_law_544 ?_
  rw [show nI i + 1 = nI (i + 1) from nI_add i 1]
  refine zv_sld (by omega) (by omega) dL_law_545 ?_
  refine zv_aload_n dL_law_546 rfl ?_
  refine zv_iload_n dL_law_547 rfl ?_
  refine zv_iconst (v := 2) dL_law_548 (by decide) ?_
  refine zv_iadd dL_law_549 ?_
  rw [show nI i + 2 = nI (i + 2) from nI_add i 2]
  refine zv_sld (by omega) (by omega) dL_law_550 ?_
  refine zv_aload_n dL_law_551 rfl ?_
  refine zv_iload_n dL_law_552 rfl ?_
  refine zv_iconst (v := 3) dL_law_553 (by decide) ?_
  refine zv_iadd dL_law_554 ?_
  rw [show nI i + 3 = nI (i + 3) from nI_add i 3]
  refine zv_sld (by omega) (by omega) dL_law_555 ?_
  refine zv_callV (m_X7_degrees l D B hM1 hLS.1 (xs (i + 1)) (xs (i + 2)) (xs (i + 3))) ml_L_72 in_X7_degrees sel_X7_degrees hM1.1 rfl rfl rfl rfl (Nat.le_of_ble_eq_true rfl) dL_law_556 ⟨Nat.le_of_ble_eq_true rfl, Nat.le_of_ble_eq_true rfl⟩ ⟨(show _ ≤ 600000 by omega), (show _ ≤ 7302250 by omega)⟩ (zk_i ?_)
  refine zv_icmp_eq (tgt := 715) dL_law_559 (by decide) (fun _ => ?_) (fun h => absurd (rfl) h)
  exact zv_widen (by omega) (by omega) (kk _ _ _ (zLJ_of hR1 hM1 (fun y hy => rfl) (zLS_mono hLS (by omega))) (Nat.le_refl _) (by omega))

set_option maxRecDepth 100000 in
set_option maxHeartbeats 4000000 in
theorem law_put (l : Launch) (D : zD) (B : Nat) {mn : String} {L : zL} {nx : Nat} {G : zG} {b S : Nat} {xs : Nat → Int32} {x i bd K N c tn : Nat} {r : Nat → Int32} {h : Nat → (Nat → Int32)} {sl : Nat → Option (Nat → Int32)} {T : Nat → Nat} (hB : B ≤ nx) (hx : x + 146 ≤ nx) (hnx : nx < x + 2 ^ 31) (hR : zRC L x nx G r h c sl T tn) (hM : zRM L (x + 134) G r h c sl T tn) (hLS : zLS bd r h c sl) (hbd : bd < 2 ^ 31 - 1) (hi : i + 4 ≤ S) (hS : S < 2 ^ 30) (hK : K + 15 ≤ 600000) (hN : N + 242 ≤ 7302250) (kk : ∀ (L' : zL) (nx' : Nat) (G' : zG), zLJ L' x nx' G' (bd + 7920) → nx ≤ nx' → nx' ≤ nx + 15 → zV l (lX B b S xs) D B RL mn cL_law 4 (some .boolean) room_1 zPL (K + 15) (N + 242) L' nx' 715 [some (.ref b), some (.ref x), some (.ref (x + 134)), some (.int (nI i))] [] G') : zV l (lX B b S xs) D B RL mn cL_law 4 (some .boolean) room_1 zPL (K) (N) L nx 564 [some (.ref b), some (.ref x), some (.ref (x + 134)), some (.int (nI i))] [] G := by
  refine zv_aload_n dL_law_564 rfl ?_
  refine zv_aload_n dL_law_565 rfl ?_
  refine zv_iload_n dL_law_566 rfl ?_
  refine zv_iconst (v := 1) dL_law_567 (by decide) ?_
  refine zv_iadd dL_law_568 ?_
  rw [show nI i + 1 = nI (i + 1) from nI_add i 1]
  refine zv_sld (by omega) (by omega) dL_law_569 ?_
  refine zv_i2l dL_law_570 ?_
  refine zv_bipush (v := 32) dL_law_571 (by decide) ?_
  refine zv_lshl dL_law_573 ?_
  refine zv_aload_n dL_law_574 rfl ?_
  refine zv_iload_n dL_law_575 rfl ?_
  refine zv_iconst (v := 2) dL_law_576 (by decide) ?_
  refine zv_iadd dL_law_577 ?_
  rw [show nI i + 2 = nI (i + 2) from nI_add i 2]
  refine zv_sld (by omega) (by omega) dL_law_578 ?_
  refine zv_i2l dL_law_579 ?_
  refine zv_ldc2 dL_law_580 kc_L_73 ?_
  refine zv_land dL_law_583 ?_
  refine zv_lor dL_law_584 ?_
  refine zv_nameL (fun u hu hz => ?_)
  refine zv_callV (m_X6_put l D B hR hu) ml_L_75 in_X6_put sel_X6_put hR.1.1 rfl rfl rfl rfl (Nat.le_of_ble_eq_true rfl) dL_law_585 ⟨Nat.le_of_ble_eq_true rfl, Nat.le_of_ble_eq_true rfl⟩ ⟨(show _ ≤ 600000 by omega), (show _ ≤ 7302250 by omega)⟩ (zk_p fun G1 hG1 => ?_)
  have hM1 := zRM_to hM (fun b h => h) hG1.2
  refine zv_aload_n dL_law_588 rfl ?_
  refine zv_aload_n dL_law_589 rfl ?_
  refine zv_iload_n dL_law_590 rfl ?_
  refine zv_iconst (v := 1) dL_law_591 (by decide) ?_
  refine zv_iadd dL_law_592 ?_
  rw [show nI i + 1 = nI (i + 1) from nI_add i 1]
  refine zv_sld (by omega) (by omega) dL_law_593 ?_
  refine zv_i2l dL_law_594 ?_
  refine zv_bipush (v := 32) dL_law_595 (by decide) ?_
  refine zv_lshl dL_law_597 ?_
  refine zv_aload_n dL_law_598 rfl ?_
  refine zv_iload_n dL_law_599 rfl ?_
  refine zv_iconst (v := 2) dL_law_600 (by decide) ?_
  refine zv_iadd dL_law_601 ?_
  rw [show nI i + 2 = nI (i + 2) from nI_add i 2]
  refine zv_sld (by omega) (by omega) dL_law_602 ?_
  refine zv_i2l dL_law_603 ?_
  refine zv_ldc2 dL_law_604 kc_L_73 ?_
  refine zv_land dL_law_607 ?_
  refine zv_lor dL_law_608 ?_
  rw [hz]
  refine zv_callV (m_X7_put l D B hM1 hu) ml_L_79 in_X7_put sel_X7_put hM1.1 rfl rfl rfl rfl (Nat.le_of_ble_eq_true rfl) dL_law_609 ⟨Nat.le_of_ble_eq_true rfl, Nat.le_of_ble_eq_true rfl⟩ ⟨(show _ ≤ 600000 by omega), (show _ ≤ 7302250 by omega)⟩ (zk_p fun G2 hG2 => ?_)
  refine zv_icmp_eq (tgt := 715) dL_law_612 (by decide) (fun _ => ?_) (fun h => absurd (rfl) h)
  exact zv_widen (by omega) (by omega) (kk _ _ _ (zLJ_of hG1.1 hG2.1 hG2.2 (zLS_mono (hLS) (by omega))) (Nat.le_refl _) (by omega))

set_option maxRecDepth 100000 in
set_option maxHeartbeats 4000000 in
theorem law_wipe (l : Launch) (D : zD) (B : Nat) {mn : String} {L : zL} {nx : Nat} {G : zG} {b S : Nat} {xs : Nat → Int32} {x i bd K N c tn : Nat} {r : Nat → Int32} {h : Nat → (Nat → Int32)} {sl : Nat → Option (Nat → Int32)} {T : Nat → Nat} (hB : B ≤ nx) (hx : x + 146 ≤ nx) (hnx : nx < x + 2 ^ 31) (hR : zRC L x nx G r h c sl T tn) (hM : zRM L (x + 134) G r h c sl T tn) (hLS : zLS bd r h c sl) (hbd : bd < 2 ^ 31 - 1) (hi : i + 4 ≤ S) (hS : S < 2 ^ 30) (hK : K + 15 ≤ 600000) (hN : N + 242 ≤ 7302250) (kk : ∀ (L' : zL) (nx' : Nat) (G' : zG), zLJ L' x nx' G' (bd + 7920) → nx ≤ nx' → nx' ≤ nx + 15 → zV l (lX B b S xs) D B RL mn cL_law 4 (some .boolean) room_1 zPL (K + 15) (N + 242) L' nx' 715 [some (.ref b), some (.ref x), some (.ref (x + 134)), some (.int (nI i))] [] G') : zV l (lX B b S xs) D B RL mn cL_law 4 (some .boolean) room_1 zPL (K) (N) L nx 617 [some (.ref b), some (.ref x), some (.ref (x + 134)), some (.int (nI i))] [] G := by
  refine zv_aload_n dL_law_617 rfl ?_
  refine zv_callV (m_X6_wipe l D B hR) ml_L_80 in_X6_wipe sel_X6_wipe hR.1.1 rfl rfl rfl rfl (Nat.le_of_ble_eq_true rfl) dL_law_618 ⟨Nat.le_of_ble_eq_true rfl, Nat.le_of_ble_eq_true rfl⟩ ⟨(show _ ≤ 600000 by omega), (show _ ≤ 7302250 by omega)⟩ (zk_p fun G1 hG1 => ?_)
  have hM1 := zRM_to hM (fun b h => h) hG1.2
  refine zv_aload_n dL_law_621 rfl ?_
  refine zv_callV (m_X7_wipe l D B (b := 0) hM1) ml_L_83 in_X7_wipe sel_X7_wipe hM1.1 rfl rfl rfl rfl (Nat.le_of_ble_eq_true rfl) dL_law_622 ⟨Nat.le_of_ble_eq_true rfl, Nat.le_of_ble_eq_true rfl⟩ ⟨(show _ ≤ 600000 by omega), (show _ ≤ 7302250 by omega)⟩ (zk_p fun G2 hG2 => ?_)
  refine zv_icmp_eq (tgt := 715) dL_law_625 (by decide) (fun _ => ?_) (fun h => absurd (rfl) h)
  exact zv_widen (by omega) (by omega) (kk _ _ _ (zLJ_of hG1.1 hG2.1 hG2.2 (zLS_mono (hLS) (by omega))) (Nat.le_refl _) (by omega))

set_option maxRecDepth 100000 in
set_option maxHeartbeats 4000000 in
theorem law_fault (l : Launch) (D : zD) (B : Nat) {mn : String} {L : zL} {nx : Nat} {G : zG} {b S : Nat} {xs : Nat → Int32} {x i bd K N c tn : Nat} {r : Nat → Int32} {h : Nat → (Nat → Int32)} {sl : Nat → Option (Nat → Int32)} {T : Nat → Nat} (hB : B ≤ nx) (hx : x + 146 ≤ nx) (hnx : nx < x + 2 ^ 31) (hR : zRC L x nx G r h c sl T tn) (hM : zRM L (x + 134) G r h c sl T tn) (hLS : zLS bd r h c sl) (hbd : bd < 2 ^ 31 - 1) (hi : i + 4 ≤ S) (hS : S < 2 ^ 30) (hK : K + 15 ≤ 600000) (hN : N + 242 ≤ 7302250) (kk : ∀ (L' : zL) (nx' : Nat) (G' : zG), zLJ L' x nx' G' (bd + 7920) → nx ≤ nx' → nx' ≤ nx + 15 → zV l (lX B b S xs) D B RL mn cL_law 4 (some .boolean) room_1 zPL (K + 15) (N + 242) L' nx' 715 [some (.ref b), some (.ref x), some (.ref (x + 134)), some (.int (nI i))] [] G') : zV l (lX B b S xs) D B RL mn cL_law 4 (some .boolean) room_1 zPL (K) (N) L nx 630 [some (.ref b), some (.ref x), some (.ref (x + 134)), some (.int (nI i))] [] G := by
  refine zv_aload_n dL_law_630 rfl ?_
  refine zv_callV (m_X6_fault l D B hR) ml_L_84 in_X6_fault sel_X6_fault hR.1.1 rfl rfl rfl rfl (Nat.le_of_ble_eq_true rfl) dL_law_631 ⟨Nat.le_of_ble_eq_true rfl, Nat.le_of_ble_eq_true rfl⟩ ⟨(show _ ≤ 600000 by omega), (show _ ≤ 7302250 by omega)⟩ (zk_p fun G1 hG1 => ?_)
  have hM1 := zRM_to hM (fun b h => h) hG1.2
  refine zv_aload_n dL_law_634 rfl ?_
  refine zv_callV (m_X7_fault l D B hM1) ml_L_87 in_X7_fault sel_X7_fault hM1.1 rfl rfl rfl rfl (Nat.le_of_ble_eq_true rfl) dL_law_635 ⟨Nat.le_of_ble_eq_true rfl, Nat.le_of_ble_eq_true rfl⟩ ⟨(show _ ≤ 600000 by omega), (show _ ≤ 7302250 by omega)⟩ (zk_p fun G2 hG2 => ?_)
  refine zv_icmp_eq (tgt := 715) dL_law_638 (by decide) (fun _ => ?_) (fun h => absurd (rfl) h)
  exact zv_widen (by omega) (by omega) (kk _ _ _ (zLJ_of hG1.1 hG2.1 hG2.2 (zLS_mono (hLS) (by omega))) (Nat.le_refl _) (by omega))

set_option maxRecDepth 100000 in
set_option maxHeartbeats 4000000 in
theorem law_carryOut (l : Launch) (D : zD) (B : Nat) {mn : String} {L : zL} {nx : Nat} {G : zG} {b S : Nat} {xs : Nat → Int32} {x i bd K N c tn : Nat} {r : Nat → Int32} {h : Nat → (Nat → Int32)} {sl : Nat → Option (Nat → Int32)} {T : Nat → Nat} (hB : B ≤ nx) (hx : x + 146 ≤ nx) (hnx : nx < x + 2 ^ 31) (hR : zRC L x nx G r h c sl T tn) (hM : zRM L (x + 134) G r h c sl T tn) (hLS : zLS bd r h c sl) (hbd : bd < 2 ^ 31 - 1) (hi : i + 4 ≤ S) (hS : S < 2 ^ 30) (hK : K + 15 ≤ 600000) (hN : N + 242 ≤ 7302250) (kk : ∀ (L' : zL) (nx' : Nat) (G' : zG), zLJ L' x nx' G' (bd + 7920) → nx ≤ nx' → nx' ≤ nx + 15 → zV l (lX B b S xs) D B RL mn cL_law 4 (some .boolean) room_1 zPL (K + 15) (N + 242) L' nx' 715 [some (.ref b), some (.ref x), some (.ref (x + 134)), some (.int (nI i))] [] G') : zV l (lX B b S xs) D B RL mn cL_law 4 (some .boolean) room_1 zPL (K) (N) L nx 643 [some (.ref b), some (.ref x), some (.ref (x + 134)), some (.int (nI i))] [] G := by
  refine zv_aload_n dL_law_643 rfl ?_
  refine zv_callV (m_X6_carryOut l D B hR hLS.1) ml_L_88 in_X6_carryOut sel_X6_carryOut hR.1.1 rfl rfl rfl rfl (Nat.le_of_ble_eq_true rfl) dL_law_644 ⟨Nat.le_of_ble_eq_true rfl, Nat.le_of_ble_eq_true rfl⟩ ⟨(show _ ≤ 600000 by omega), (show _ ≤ 7302250 by omega)⟩ (zk_p fun G1 hG1 => ?_)
  have hM1 := zRM_to hM (fun b h => h) hG1.2
  refine zv_aload_n dL_law_647 rfl ?_
  refine zv_callV (m_X7_carryOut l D B hM1 hLS.1) ml_L_91 in_X7_carryOut sel_X7_carryOut hM1.1 rfl rfl rfl rfl (Nat.le_of_ble_eq_true rfl) dL_law_648 ⟨Nat.le_of_ble_eq_true rfl, Nat.le_of_ble_eq_true rfl⟩ ⟨(show _ ≤ 600000 by omega), (show _ ≤ 7302250 by omega)⟩ (zk_p fun G2 hG2 => ?_)
  refine zv_icmp_eq (tgt := 715) dL_law_651 (by decide) (fun _ => ?_) (fun h => absurd (rfl) h)
  exact zv_widen (by omega) (by omega) (kk _ _ _ (zLJ_of hG1.1 hG2.1 hG2.2 (zLS_mono (zLS_car hLS) (by omega))) (Nat.le_refl _) (by omega))

set_option maxRecDepth 100000 in
set_option maxHeartbeats 4000000 in
theorem law_undo (l : Launch) (D : zD) (B : Nat) {mn : String} {L : zL} {nx : Nat} {G : zG} {b S : Nat} {xs : Nat → Int32} {x i bd K N c tn : Nat} {r : Nat → Int32} {h : Nat → (Nat → Int32)} {sl : Nat → Option (Nat → Int32)} {T : Nat → Nat} (hB : B ≤ nx) (hx : x + 146 ≤ nx) (hnx : nx < x + 2 ^ 31) (hR : zRC L x nx G r h c sl T tn) (hM : zRM L (x + 134) G r h c sl T tn) (hLS : zLS bd r h c sl) (hbd : bd < 2 ^ 31 - 1) (hi : i + 4 ≤ S) (hS : S < 2 ^ 30) (hK : K + 15 ≤ 600000) (hN : N + 242 ≤ 7302250) (kk : ∀ (L' : zL) (nx' : Nat) (G' : zG), zLJ L' x nx' G' (bd + 7920) → nx ≤ nx' → nx' ≤ nx + 15 → zV l (lX B b S xs) D B RL mn cL_law 4 (some .boolean) room_1 zPL (K + 15) (N + 242) L' nx' 715 [some (.ref b), some (.ref x), some (.ref (x + 134)), some (.int (nI i))] [] G') : zV l (lX B b S xs) D B RL mn cL_law 4 (some .boolean) room_1 zPL (K) (N) L nx 656 [some (.ref b), some (.ref x), some (.ref (x + 134)), some (.int (nI i))] [] G := by
  refine zv_aload_n dL_law_656 rfl ?_
  refine zv_callV (m_X6_undo l D B hR) ml_L_92 in_X6_undo sel_X6_undo hR.1.1 rfl rfl rfl rfl (Nat.le_of_ble_eq_true rfl) dL_law_657 ⟨Nat.le_of_ble_eq_true rfl, Nat.le_of_ble_eq_true rfl⟩ ⟨(show _ ≤ 600000 by omega), (show _ ≤ 7302250 by omega)⟩ (zk_p fun G1 hG1 => ?_)
  have hM1 := zRM_to hM (fun b h => h) hG1.2
  refine zv_aload_n dL_law_660 rfl ?_
  refine zv_callV (p_X7_undo l D B (b := 0) hM1) ml_L_95 in_X7_undo sel_X7_undo hM1.1 rfl rfl rfl rfl (Nat.le_of_ble_eq_true rfl) dL_law_661 ⟨Nat.le_of_ble_eq_true rfl, Nat.le_of_ble_eq_true rfl⟩ ⟨(show _ ≤ 600000 by omega), (show _ ≤ 7302250 by omega)⟩ (zk_p fun G2 hG2 => ?_)
  refine zv_icmp_eq (tgt := 715) dL_law_664 (by decide) (fun _ => ?_) (fun h => absurd (rfl) h)
  exact zv_widen (by omega) (by omega) (kk _ _ _ (zLJ_of hG1.1 hG2.1 hG2.2 (zLS_mono (zLS_undo hLS) (by omega))) (Nat.le_refl _) (by omega))

set_option maxRecDepth 100000 in
set_option maxHeartbeats 4000000 in
theorem law_save (l : Launch) (D : zD) (B : Nat) {mn : String} {L : zL} {nx : Nat} {G : zG} {b S : Nat} {xs : Nat → Int32} {x i bd K N c tn : Nat} {r : Nat → Int32} {h : Nat → (Nat → Int32)} {sl : Nat → Option (Nat → Int32)} {T : Nat → Nat} (hB : B ≤ nx) (hx : x + 146 ≤ nx) (hnx : nx < x + 2 ^ 31) (hR : zRC L x nx G r h c sl T tn) (hM : zRM L (x + 134) G r h c sl T tn) (hLS : zLS bd r h c sl) (hbd : bd < 2 ^ 31 - 1) (hi : i + 4 ≤ S) (hS : S < 2 ^ 30) (hK : K + 15 ≤ 600000) (hN : N + 242 ≤ 7302250) (kk : ∀ (L' : zL) (nx' : Nat) (G' : zG), zLJ L' x nx' G' (bd + 7920) → nx ≤ nx' → nx' ≤ nx + 15 → zV l (lX B b S xs) D B RL mn cL_law 4 (some .boolean) room_1 zPL (K + 15) (N + 242) L' nx' 715 [some (.ref b), some (.ref x), some (.ref (x + 134)), some (.int (nI i))] [] G') : zV l (lX B b S xs) D B RL mn cL_law 4 (some .boolean) room_1 zPL (K) (N) L nx 669 [some (.ref b), some (.ref x), some (.ref (x + 134)), some (.int (nI i))] [] G := by
  refine zv_aload_n dL_law_669 rfl ?_
  refine zv_aload_n dL_law_670 rfl ?_
  refine zv_iload_n dL_law_671 rfl ?_
  refine zv_iconst (v := 1) dL_law_672 (by decide) ?_
  refine zv_iadd dL_law_673 ?_
  rw [show nI i + 1 = nI (i + 1) from nI_add i 1]
  refine zv_sld (by omega) (by omega) dL_law_674 ?_
  refine zv_callV (m_X6_save l D B hR hB hx hnx (xs (i + 1))) ml_L_96 in_X6_save sel_X6_save hR.1.1 rfl rfl rfl rfl (Nat.le_of_ble_eq_true rfl) dL_law_675 ⟨Nat.le_of_ble_eq_true rfl, Nat.le_of_ble_eq_true rfl⟩ ⟨(show _ ≤ 600000 by omega), (show _ ≤ 7302250 by omega)⟩ (fun v1 L1 n1 G1 hG1 => ?_)
  obtain ⟨rfl, hsub, hx1, hx2, hR1, hm1⟩ := hG1
  have hM1 := zRM_to hM hsub hm1
  refine zv_aload_n dL_law_678 rfl ?_
  refine zv_aload_n dL_law_679 rfl ?_
  refine zv_iload_n dL_law_680 rfl ?_
  refine zv_iconst (v := 1) dL_law_681 (by decide) ?_
  refine zv_iadd dL_law_682 ?_
  rw [show nI i + 1 = nI (i + 1) from nI_add i 1]
  refine zv_sld (by omega) (by omega) dL_law_683 ?_
  refine zv_callV (p_X7_save l D B (b := 0) hM1 (xs (i + 1))) ml_L_99 in_X7_save sel_X7_save hM1.1 rfl rfl rfl rfl (Nat.le_of_ble_eq_true rfl) dL_law_684 ⟨Nat.le_of_ble_eq_true rfl, Nat.le_of_ble_eq_true rfl⟩ ⟨(show _ ≤ 600000 by omega), (show _ ≤ 7302250 by omega)⟩ (zk_p fun G2 hG2 => ?_)
  refine zv_icmp_eq (tgt := 715) dL_law_687 (by decide) (fun _ => ?_) (fun h => absurd (rfl) h)
  exact kk _ _ _ (zLJ_of hR1 hG2.1 hG2.2 (zLS_mono (zLS_save hLS) (by omega))) hx1 hx2

set_option maxRecDepth 100000 in
set_option maxHeartbeats 4000000 in
theorem law_restore (l : Launch) (D : zD) (B : Nat) {mn : String} {L : zL} {nx : Nat} {G : zG} {b S : Nat} {xs : Nat → Int32} {x i bd K N c tn : Nat} {r : Nat → Int32} {h : Nat → (Nat → Int32)} {sl : Nat → Option (Nat → Int32)} {T : Nat → Nat} (hB : B ≤ nx) (hx : x + 146 ≤ nx) (hnx : nx < x + 2 ^ 31) (hR : zRC L x nx G r h c sl T tn) (hM : zRM L (x + 134) G r h c sl T tn) (hLS : zLS bd r h c sl) (hbd : bd < 2 ^ 31 - 1) (hi : i + 4 ≤ S) (hS : S < 2 ^ 30) (hK : K + 15 ≤ 600000) (hN : N + 242 ≤ 7302250) (kk : ∀ (L' : zL) (nx' : Nat) (G' : zG), zLJ L' x nx' G' (bd + 7920) → nx ≤ nx' → nx' ≤ nx + 15 → zV l (lX B b S xs) D B RL mn cL_law 4 (some .boolean) room_1 zPL (K + 15) (N + 242) L' nx' 715 [some (.ref b), some (.ref x), some (.ref (x + 134)), some (.int (nI i))] [] G') : zV l (lX B b S xs) D B RL mn cL_law 4 (some .boolean) room_1 zPL (K) (N) L nx 692 [some (.ref b), some (.ref x), some (.ref (x + 134)), some (.int (nI i))] [] G := by
  refine zv_aload_n dL_law_692 rfl ?_
  refine zv_aload_n dL_law_693 rfl ?_
  refine zv_iload_n dL_law_694 rfl ?_
  refine zv_iconst (v := 1) dL_law_695 (by decide) ?_
  refine zv_iadd dL_law_696 ?_
  rw [show nI i + 1 = nI (i + 1) from nI_add i 1]
  refine zv_sld (by omega) (by omega) dL_law_697 ?_
  refine zv_callV (m_X6_restore l D B hR (zLS_neg hLS) (xs (i + 1))) ml_L_100 in_X6_restore sel_X6_restore hR.1.1 rfl rfl rfl rfl (Nat.le_of_ble_eq_true rfl) dL_law_698 ⟨Nat.le_of_ble_eq_true rfl, Nat.le_of_ble_eq_true rfl⟩ ⟨(show _ ≤ 600000 by omega), (show _ ≤ 7302250 by omega)⟩ (zk_p fun G1 hG1 => ?_)
  have hM1 := zRM_to hM (fun b h => h) hG1.2
  refine zv_aload_n dL_law_701 rfl ?_
  refine zv_aload_n dL_law_702 rfl ?_
  refine zv_iload_n dL_law_703 rfl ?_
  refine zv_iconst (v := 1) dL_law_704 (by decide) ?_
  refine zv_iadd dL_law_705 ?_
  rw [show nI i + 1 = nI (i + 1) from nI_add i 1]
  refine zv_sld (by omega) (by omega) dL_law_706 ?_
  refine zv_callV (m_X7_restore l D B hM1 (zLS_neg hLS) (xs (i + 1))) ml_L_103 in_X7_restore sel_X7_restore hM1.1 rfl rfl rfl rfl (Nat.le_of_ble_eq_true rfl) dL_law_707 ⟨Nat.le_of_ble_eq_true rfl, Nat.le_of_ble_eq_true rfl⟩ ⟨(show _ ≤ 600000 by omega), (show _ ≤ 7302250 by omega)⟩ (zk_p fun G2 hG2 => ?_)
  refine zv_icmp_eq (tgt := 715) dL_law_710 (by decide) (fun _ => ?_) (fun h => absurd (rfl) h)
  exact zv_widen (by omega) (by omega) (kk _ _ _ (zLJ_of hG1.1 hG2.1 hG2.2 (zLS_mono (zLS_chg hLS (Nat.le_refl _) (SI_rest hLS)) (by omega))) (Nat.le_refl _) (by omega))
