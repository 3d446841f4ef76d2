set_option maxRecDepth 100000 in
set_option maxHeartbeats 4000000 in
theorem lc_X7_follow (l : Launch) (D : zD) (B : Nat) {L : zL} {nx : Nat} {G : zG} {m i : Nat} {g r f ch R : Nat → Int32} (hm : (m, 8) ∈ L) (hi : i < 3) {d : Nat} {s0 : Int32} {l6 : Option Value} {P : zP} (kk : zV l (fun _ => True) D B RX7 "follow" cX7_follow 7 (some .int) (zrm 1 22 0 0) P 0 0 L nx 119 [some (.ref m), some (.int (nI i)), some (.int (nI d)), some (.int (rdS R s0 16)), some (.int (xs ch (rdS R s0 16))), some (.int (nI 16)), l6] [] ((mS G m (gR g R (xsR ch R)) r i f))) : ∀ k : Nat, k ≤ 16 → zV l (fun _ => True) D B RX7 "follow" cX7_follow 7 (some .int) (zrm 1 22 0 0) P 0 0 L nx 64 [some (.ref m), some (.int (nI i)), some (.int (nI d)), some (.int (rdS R s0 k)), some (.int (xs ch (rdS R s0 k))), some (.int (nI k)), l6] [] ((mS G m (gR g R (xsR ch R)) r i f)) := by
  refine zloop 16 (fun k hk ih => ?_)
  refine zv_iload dX7_follow_64 rfl ?_
  refine zv_bipush (v := 16) dX7_follow_66 (by decide) ?_
  refine zv_icmp_ge (tgt := 119) dX7_follow_68 (by decide) (fun c68 => ?_) (fun c68 => ?_)
  · have e : k = 16 := by have := zge_of (N := 16) (by decide) (by omega) rfl c68; omega
    subst e
    exact kk
  · have hlt : k < 16 := zlt_of (N := 16) (by decide) (by omega) rfl c68
    refine zv_iload_n dX7_follow_71 rfl ?_
    refine zv_iload dX7_follow_72 rfl ?_
    refine zv_ishr dX7_follow_74 ?_
    refine zv_iconst (v := 1) dX7_follow_75 (by decide) ?_
    refine zv_iand dX7_follow_76 ?_
    rw [zb_test _ (by omega)]
    refine zv_iconst (v := 1) dX7_follow_77 (by decide) ?_
    refine zv_icmp_ne (tgt := 113) dX7_follow_78 (by decide) (fun c78 => ?_) (fun c78 => ?_)
    · have hr : rdS R s0 (k + 1) = rdS R s0 k := by
        conv => lhs; unfold rdS
        rw [if_neg (fun h => c78 (bI_1.mpr h.1))]
      refine zv_iinc1 dX7_follow_113 rfl (by decide) rfl ?_
      refine zv_goto (tgt := 64) dX7_follow_116 (by decide) ?_
      rw [nI_1]
      have ih1 := ih hlt
      rw [hr] at ih1
      first
        | exact ih1
        | (rw [xs_xor] at ih1; exact ih1)
    · have hb := bI_1.mp c78
      refine zv_aload_n dX7_follow_81 rfl ?_
      refine zv_getS (r := 10) hm rfl fl_X7_38 rfl dX7_follow_82 ?_
      refine zv_iload dX7_follow_85 rfl ?_
      refine zv_iald (i := 10) hm rfl (zix_nI (by omega) (by decide)) dX7_follow_87 ?_
      rw [mS_o (by omega), gR_s hlt]
      refine zv_if_eq (tgt := 113) dX7_follow_88 (by decide) (fun c88 => ?_) (fun c88 => ?_)
      · have hr : rdS R s0 (k + 1) = rdS R s0 k := by
          conv => lhs; unfold rdS
          rw [if_neg (fun h => h.2 c88)]
        refine zv_iinc1 dX7_follow_113 rfl (by decide) rfl ?_
        refine zv_goto (tgt := 64) dX7_follow_116 (by decide) ?_
        rw [nI_1]
        have ih1 := ih hlt
        rw [hr] at ih1
        first
          | exact ih1
          | (rw [xs_xor] at ih1; exact ih1)
      · have hr : rdS R s0 (k + 1) = rdS R s0 k ^^^ R k := by
          conv => lhs; unfold rdS
          rw [if_pos ⟨hb, c88⟩]
        refine zv_iload_n dX7_follow_91 rfl ?_
        refine zv_aload_n dX7_follow_92 rfl ?_
        refine zv_getS (r := 10) hm rfl fl_X7_38 rfl dX7_follow_93 ?_
        refine zv_iload dX7_follow_96 rfl ?_
        refine zv_iald (i := 10) hm rfl (zix_nI (by omega) (by decide)) dX7_follow_98 ?_
        rw [mS_o (by omega), gR_s hlt]
        refine zv_ixor dX7_follow_99 ?_
        refine zv_istore_n dX7_follow_100 (by decide) rfl ?_
        refine zv_iload dX7_follow_101 rfl ?_
        refine zv_aload_n dX7_follow_103 rfl ?_
        refine zv_getS (r := 11) hm rfl fl_X7_41 rfl dX7_follow_104 ?_
        refine zv_iload dX7_follow_107 rfl ?_
        refine zv_iald (i := 11) hm rfl (zix_nI (by omega) (by decide)) dX7_follow_109 ?_
        rw [mS_o (by omega), gR_v hlt]
        refine zv_ixor dX7_follow_110 ?_
        refine zv_istore dX7_follow_111 (by decide) rfl ?_
        refine zv_iinc1 dX7_follow_113 rfl (by decide) rfl ?_
        refine zv_goto (tgt := 64) dX7_follow_116 (by decide) ?_
        rw [nI_1]
        have ih1 := ih hlt
        rw [hr] at ih1
        first
          | exact ih1
          | (rw [xs_xor] at ih1; exact ih1)

set_option maxRecDepth 100000 in
set_option maxHeartbeats 4000000 in
theorem ld_X7_follow (l : Launch) (D : zD) (B : Nat) {L : zL} {nx : Nat} {G : zG} {m i : Nat} {g r f ch R : Nat → Int32} (hm : (m, 8) ∈ L) (hi : i < 3) {d p : Nat} {s : Int32} (hp : p < 16) {P : zP} (kk : zV l (fun _ => True) D B RX7 "follow" cX7_follow 7 (some .int) (zrm 1 22 0 0) P 0 0 L nx 187 [some (.ref m), some (.int (nI i)), some (.int (nI d)), some (.int s), some (.int (xs ch s)), some (.int (nI p)), some (.int (nI 16))] [] ((mS G m (gR g (insR R s p 16) (xsR ch (insR R s p 16))) r i f))) : ∀ k : Nat, k ≤ 16 → zV l (fun _ => True) D B RX7 "follow" cX7_follow 7 (some .int) (zrm 1 22 0 0) P 0 0 L nx 135 [some (.ref m), some (.int (nI i)), some (.int (nI d)), some (.int s), some (.int (xs ch s)), some (.int (nI p)), some (.int (nI k))] [] ((mS G m (gR g (insR R s p k) (xsR ch (insR R s p k))) r i f)) := by
  refine zloop 16 (fun k hk ih => ?_)
  refine zv_iload dX7_follow_135 rfl ?_
  refine zv_bipush (v := 16) dX7_follow_137 (by decide) ?_
  refine zv_icmp_ge (tgt := 187) dX7_follow_139 (by decide) (fun c139 => ?_) (fun c139 => ?_)
  · have e : k = 16 := by have := zge_of (N := 16) (by decide) (by omega) rfl c139; omega
    subst e
    exact kk
  · have hlt : k < 16 := zlt_of (N := 16) (by decide) (by omega) rfl c139
    refine zv_aload_n dX7_follow_142 rfl ?_
    refine zv_getS (r := 10) hm rfl fl_X7_38 rfl dX7_follow_143 ?_
    refine zv_iload dX7_follow_146 rfl ?_
    refine zv_iald (i := 10) hm rfl (zix_nI (by omega) (by decide)) dX7_follow_148 ?_
    rw [mS_o (by omega), gR_s hlt, insR_k]
    refine zv_iload dX7_follow_149 rfl ?_
    refine zv_ishr dX7_follow_151 ?_
    refine zv_iconst (v := 1) dX7_follow_152 (by decide) ?_
    refine zv_iand dX7_follow_153 ?_
    rw [zb_test _ (by omega)]
    refine zv_iconst (v := 1) dX7_follow_154 (by decide) ?_
    refine zv_icmp_ne (tgt := 181) dX7_follow_155 (by decide) (fun c155 => ?_) (fun c155 => ?_)
    · have hb : zb (R k) p = false := by
        cases h : zb (R k) p with
        | false => rfl
        | true => exact absurd (bI_1.mpr h) c155
      refine zv_iinc1 dX7_follow_181 rfl (by decide) rfl ?_
      refine zv_goto (tgt := 135) dX7_follow_184 (by decide) ?_
      rw [nI_1]
      first
        | exact ih hlt
        | (have ih1 := ih hlt; rw [← insR_s2 hb] at ih1; exact ih1)
    · have hb := bI_1.mp c155
      refine zv_aload_n dX7_follow_158 rfl ?_
      refine zv_getS (r := 10) hm rfl fl_X7_38 rfl dX7_follow_159 ?_
      refine zv_iload dX7_follow_162 rfl ?_
      refine zv_dup2 dX7_follow_164 rfl rfl ?_
      refine zv_iald (i := 10) hm rfl (zix_nI (by omega) (by decide)) dX7_follow_165 ?_
      rw [mS_o (by omega), gR_s hlt, insR_k]
      refine zv_iload_n dX7_follow_166 rfl ?_
      refine zv_ixor dX7_follow_167 ?_
      refine zv_iast (i := 10) hm rfl (zix_nI (by omega) (by decide)) dX7_follow_168 ?_
      rw [mS_f (by omega), gR_us hlt, insR_s1 hb]
      refine zv_aload_n dX7_follow_169 rfl ?_
      refine zv_getS (r := 11) hm rfl fl_X7_41 rfl dX7_follow_170 ?_
      refine zv_iload dX7_follow_173 rfl ?_
      refine zv_dup2 dX7_follow_175 rfl rfl ?_
      refine zv_iald (i := 11) hm rfl (zix_nI (by omega) (by decide)) dX7_follow_176 ?_
      rw [mS_o (by omega), gR_v hlt, show xsR ch (insR R s p k) k = xs ch (R k) by unfold xsR; rw [insR_k]]
      refine zv_iload dX7_follow_177 rfl ?_
      refine zv_ixor dX7_follow_179 ?_
      refine zv_iast (i := 11) hm rfl (zix_nI (by omega) (by decide)) dX7_follow_180 ?_
      rw [mS_f (by omega), gR_uv hlt, ← xs_xor, xsR_u, insR_s1 hb]
      refine zv_iinc1 dX7_follow_181 rfl (by decide) rfl ?_
      refine zv_goto (tgt := 135) dX7_follow_184 (by decide) ?_
      rw [nI_1]
      first
        | exact ih hlt
        | (have ih1 := ih hlt; rw [← insR_s2 hb] at ih1; exact ih1)

set_option maxRecDepth 100000 in
set_option maxHeartbeats 4000000 in
theorem le_X7_follow (l : Launch) (D : zD) (B : Nat) {L : zL} {nx : Nat} {G : zG} {m i : Nat} {g r f ch R : Nat → Int32} (hm : (m, 8) ∈ L) (hi : i < 3) {l4 l5 l6 : Option Value} : ∀ k : Nat, k ≤ 16 → zV l (fun _ => True) D B RX7 "follow" cX7_follow 7 (some .int) (zrm 1 22 0 0) (zN (zI (mskF R 16) L nx (fun G1 => G1 = mS G m (gR g R (xsR ch R)) r i f))) 0 0 L nx 214 [some (.ref m), some (.int (nI i)), some (.int (mskF R k)), some (.int (nI k)), l4, l5, l6] [] ((mS G m (gR g R (xsR ch R)) r i f)) := by
  refine zloop 16 (fun k hk ih => ?_)
  refine zv_iload_n dX7_follow_214 rfl ?_
  refine zv_bipush (v := 16) dX7_follow_215 (by decide) ?_
  refine zv_icmp_ge (tgt := 248) dX7_follow_217 (by decide) (fun c217 => ?_) (fun c217 => ?_)
  · have e : k = 16 := by have := zge_of (N := 16) (by decide) (by omega) rfl c217; omega
    subst e
    refine zv_iload_n dX7_follow_248 rfl ?_
    exact zv_iretI dX7_follow_249 rfl rfl rfl rfl
  · have hlt : k < 16 := zlt_of (N := 16) (by decide) (by omega) rfl c217
    refine zv_iload_n dX7_follow_220 rfl ?_
    refine zv_aload_n dX7_follow_221 rfl ?_
    refine zv_getS (r := 10) hm rfl fl_X7_38 rfl dX7_follow_222 ?_
    refine zv_iload_n dX7_follow_225 rfl ?_
    refine zv_iald (i := 10) hm rfl (zix_nI (by omega) (by decide)) dX7_follow_226 ?_
    rw [mS_o (by omega), gR_s hlt]
    refine zv_iconst (v := 1) dX7_follow_227 (by decide) ?_
    refine zv_iload_n dX7_follow_228 rfl ?_
    refine zv_ishl dX7_follow_229 ?_
    refine zv_icmp_ne (tgt := 239) dX7_follow_230 (by decide) (fun c230 => ?_) (fun c230 => ?_)
    · have hv : mskF R (k + 1) = mskF R k ||| 0 := by
        show (if decide (R k = bt k) = true then _ else _) = _
        rw [if_neg (show ¬ decide (R k = bt k) = true from fun h => c230 (of_decide_eq_true h))]
        apply zb_ext
        intro j _
        rw [zb_or, zb_zero, Bool.or_false]
        rfl
      refine zv_iconst (v := 0) dX7_follow_239 (by decide) ?_
      refine zv_ior dX7_follow_240 ?_
      refine zv_istore_n dX7_follow_241 (by decide) rfl ?_
      refine zv_iinc1 dX7_follow_242 rfl (by decide) rfl ?_
      refine zv_goto (tgt := 214) dX7_follow_245 (by decide) ?_
      rw [nI_1]
      have ih1 := ih hlt
      rw [hv] at ih1
      exact ih1
    · have hv : mskF R (k + 1) = mskF R k ||| bt k := by
        show (if decide (R k = bt k) = true then _ else _) = _
        rw [if_pos (decide_eq_true (show R k = bt k from c230))]
        rfl
      refine zv_iconst (v := 1) dX7_follow_233 (by decide) ?_
      refine zv_iload_n dX7_follow_234 rfl ?_
      refine zv_ishl dX7_follow_235 ?_
      refine zv_goto (tgt := 240) dX7_follow_236 (by decide) ?_
      refine zv_ior dX7_follow_240 ?_
      refine zv_istore_n dX7_follow_241 (by decide) rfl ?_
      refine zv_iinc1 dX7_follow_242 rfl (by decide) rfl ?_
      refine zv_goto (tgt := 214) dX7_follow_245 (by decide) ?_
      rw [nI_1]
      have ih1 := ih hlt
      rw [hv] at ih1
      exact ih1

set_option maxRecDepth 100000 in
set_option maxHeartbeats 4000000 in
theorem lb_X7_follow (l : Launch) (D : zD) (B : Nat) {L : zL} {nx : Nat} {G : zG} {m i n t : Nat} {g r f ch : Nat → Int32} (hm : (m, 8) ∈ L) (hi : i < 3) (hJ : zCJ n ch f t) : ∀ d : Nat, d ≤ t → ∀ l3 l4 l5 l6 : Option Value, zV l (fun _ => True) D B RX7 "follow" cX7_follow 7 (some .int) (zrm 1 22 0 0) (zN (zI (mskF (folR f t) 16) L nx (fun G1 => G1 = mS G m (gR g (folR f t) (xsR ch (folR f t))) r i f))) 0 0 L nx 30 [some (.ref m), some (.int (nI i)), some (.int (nI d)), l3, l4, l5, l6] [] ((mS G m (gR g (folR f d) (xsR ch (folR f d))) r i f)) := by
  refine zloop t (fun d hd ih l3 l4 l5 l6 => ?_)
  have ht24 := hJ.2.1
  refine zv_iload_n dX7_follow_30 rfl ?_
  refine zv_aload_n dX7_follow_31 rfl ?_
  refine zv_iload_n dX7_follow_32 rfl ?_
  refine zv_iconst (v := 1) dX7_follow_33 (by decide) ?_
  refine zv_callV (m_its l D B (k := 1) hm hi (by omega)) ml_X7_48 in_X7_its sel_X7_its hm rfl rfl rfl rfl (Nat.le_of_ble_eq_true rfl) dX7_follow_34 ⟨Nat.le_of_ble_eq_true rfl, Nat.le_of_ble_eq_true rfl⟩ ⟨Nat.le_refl _, Nat.le_refl _⟩ (zk_i ?_)
  rw [hJ.2.2.1]
  refine zv_icmp_ge (tgt := 210) dX7_follow_37 (by decide) (fun c37 => ?_) (fun c37 => ?_)
  · have e : d = t := by have := (nI_leI (by omega) (by omega)).mp c37; omega
    subst e
    refine zv_iconst (v := 0) dX7_follow_210 (by decide) ?_
    refine zv_istore_n dX7_follow_211 (by decide) rfl ?_
    refine zv_iconst (v := 0) dX7_follow_212 (by decide) ?_
    refine zv_istore_n dX7_follow_213 (by decide) rfl ?_
    exact le_X7_follow l D B (R := folR f d) hm hi 0 (by omega)
  · have hlt : d < t := by
      rcases Nat.lt_or_ge d t with h | h
      · exact h
      · exact absurd (nI_le h (by omega)) c37
    obtain ⟨q1, q2, q3, q4⟩ := hJ.2.2.2.2.2 d (by omega)
    obtain ⟨i1, i2, i3⟩ := folR_inv (f := f) hJ.1 (fun d hd => (hJ.2.2.2.2.2 d hd).1) d (by omega)
    have hl := rdS_lim i2 q1 16 (by omega)
    refine zv_aload_n dX7_follow_40 rfl ?_
    refine zv_iload_n dX7_follow_41 rfl ?_
    refine zv_bipush (v := 21) dX7_follow_42 (by decide) ?_
    refine zv_iload_n dX7_follow_44 rfl ?_
    refine zv_iadd dX7_follow_45 ?_
    rw [ix21]
    refine zv_callV (m_its l D B (k := 21 + d) hm hi (by omega)) ml_X7_48 in_X7_its sel_X7_its hm rfl rfl rfl rfl (Nat.le_of_ble_eq_true rfl) dX7_follow_46 ⟨Nat.le_of_ble_eq_true rfl, Nat.le_of_ble_eq_true rfl⟩ ⟨Nat.le_refl _, Nat.le_refl _⟩ (zk_i ?_)
    refine zv_istore_n dX7_follow_49 (by decide) rfl ?_
    refine zv_aload_n dX7_follow_50 rfl ?_
    refine zv_iload_n dX7_follow_51 rfl ?_
    refine zv_bipush (v := 45) dX7_follow_52 (by decide) ?_
    refine zv_iload_n dX7_follow_54 rfl ?_
    refine zv_iadd dX7_follow_55 ?_
    rw [ix45]
    refine zv_callV (m_its l D B (k := 45 + d) hm hi (by omega)) ml_X7_48 in_X7_its sel_X7_its hm rfl rfl rfl rfl (Nat.le_of_ble_eq_true rfl) dX7_follow_56 ⟨Nat.le_of_ble_eq_true rfl, Nat.le_of_ble_eq_true rfl⟩ ⟨Nat.le_refl _, Nat.le_refl _⟩ (zk_i ?_)
    rw [q3]
    refine zv_istore dX7_follow_59 (by decide) rfl ?_
    refine zv_iconst (v := 0) dX7_follow_61 (by decide) ?_
    refine zv_istore dX7_follow_62 (by decide) rfl ?_
    refine lc_X7_follow l D B hm hi (R := folR f d) (s0 := f (21 + d)) ?_ 0 (by omega)
    refine zv_iload_n dX7_follow_119 rfl ?_
    refine zv_if_ne (tgt := 126) dX7_follow_120 (by decide) (fun c120 => ?_) (fun c120 => ?_)
    · have z0 : ¬ (rdS (folR f d) (f (21 + d)) 16) = 0 := c120
      obtain ⟨z1, z2⟩ := zlow_at hJ.1 hl z0
      have hfo : folR f (d + 1) = insE (folR f d) (rdS (folR f d) (f (21 + d)) 16) (zlow (rdS (folR f d) (f (21 + d)) 16)) := by
        conv => lhs; unfold folR
        rw [if_neg z0]
      refine zv_iload_n dX7_follow_126 rfl ?_
      refine zv_callS (m_X7_lowest l D B _) ml_X7_101 st_X7_lowest rfl rfl (Nat.le_of_ble_eq_true rfl) dX7_follow_127 ⟨Nat.le_of_ble_eq_true rfl, Nat.le_of_ble_eq_true rfl⟩ ⟨Nat.le_refl _, Nat.le_refl _⟩ (zk_i ?_)
      rw [lowM_z]
      refine zv_istore dX7_follow_130 (by decide) rfl ?_
      refine zv_iconst (v := 0) dX7_follow_132 (by decide) ?_
      refine zv_istore dX7_follow_133 (by decide) rfl ?_
      rw [show gR g (folR f d) (xsR ch (folR f d)) = gR g (insR (folR f d) (rdS (folR f d) (f (21 + d)) 16) (zlow (rdS (folR f d) (f (21 + d)) 16)) 0) (xsR ch (insR (folR f d) (rdS (folR f d) (f (21 + d)) 16) (zlow (rdS (folR f d) (f (21 + d)) 16)) 0)) by rw [insR_0]]
      refine ld_X7_follow l D B hm hi (R := folR f d) (s := (rdS (folR f d) (f (21 + d)) 16)) (p := zlow (rdS (folR f d) (f (21 + d)) 16)) z1 ?_ 0 (by omega)
      refine zv_aload_n dX7_follow_187 rfl ?_
      refine zv_getS (r := 10) hm rfl fl_X7_38 rfl dX7_follow_188 ?_
      refine zv_iload dX7_follow_191 rfl ?_
      refine zv_iload_n dX7_follow_193 rfl ?_
      refine zv_iast (i := 10) hm rfl (zix_nI (by omega) (by decide)) dX7_follow_194 ?_
      rw [mS_f (by omega), gR_us z1]
      refine zv_aload_n dX7_follow_195 rfl ?_
      refine zv_getS (r := 11) hm rfl fl_X7_41 rfl dX7_follow_196 ?_
      refine zv_iload dX7_follow_199 rfl ?_
      refine zv_iload dX7_follow_201 rfl ?_
      refine zv_iast (i := 11) hm rfl (zix_nI (by omega) (by decide)) dX7_follow_203 ?_
      rw [mS_f (by omega), gR_uv z1, xsR_u, show upd (insR (folR f d) (rdS (folR f d) (f (21 + d)) 16) (zlow (rdS (folR f d) (f (21 + d)) 16)) 16) (zlow (rdS (folR f d) (f (21 + d)) 16)) (rdS (folR f d) (f (21 + d)) 16) = insE (folR f d) (rdS (folR f d) (f (21 + d)) 16) (zlow (rdS (folR f d) (f (21 + d)) 16)) from rfl]
      refine zv_iinc1 dX7_follow_204 rfl (by decide) rfl ?_
      refine zv_goto (tgt := 30) dX7_follow_207 (by decide) ?_
      rw [nI_1]
      have ih1 := fun a b c d2 => ih (by omega) a b c d2
      rw [hfo] at ih1
      exact ih1 _ _ _ _
    · have hfo : folR f (d + 1) = folR f d := by
        conv => lhs; unfold folR
        rw [if_pos c120]
      refine zv_goto (tgt := 204) dX7_follow_123 (by decide) ?_
      refine zv_iinc1 dX7_follow_204 rfl (by decide) rfl ?_
      refine zv_goto (tgt := 30) dX7_follow_207 (by decide) ?_
      rw [nI_1]
      have ih1 := fun a b c d2 => ih (by omega) a b c d2
      rw [hfo] at ih1
      exact ih1 _ _ _ _

set_option maxRecDepth 100000 in
set_option maxHeartbeats 4000000 in
theorem la_X7_follow (l : Launch) (D : zD) (B : Nat) {L : zL} {nx : Nat} {G : zG} {m i n t : Nat} {g r f ch : Nat → Int32} (hm : (m, 8) ∈ L) (hi : i < 3) (hJ : zCJ n ch f t) : ∀ k : Nat, k ≤ 16 → zV l (fun _ => True) D B RX7 "follow" cX7_follow 7 (some .int) (zrm 1 22 0 0) (zN (zI (mskF (folR f t) 16) L nx (fun G1 => G1 = mS G m (gR g (folR f t) (xsR ch (folR f t))) r i f))) 0 0 L nx 2 [some (.ref m), some (.int (nI i)), some (.int (nI k)), none, none, none, none] [] ((mS G m (gR g (fun j => if j < k then 0 else g (2619 + j)) (fun j => if j < k then 0 else g (2635 + j))) r i f)) := by
  refine zloop 16 (fun k hk ih => ?_)
  refine zv_iload_n dX7_follow_2 rfl ?_
  refine zv_bipush (v := 16) dX7_follow_3 (by decide) ?_
  refine zv_icmp_ge (tgt := 28) dX7_follow_5 (by decide) (fun c5 => ?_) (fun c5 => ?_)
  · have e : k = 16 := by have := zge_of (N := 16) (by decide) (by omega) rfl c5; omega
    subst e
    refine zv_iconst (v := 0) dX7_follow_28 (by decide) ?_
    refine zv_istore_n dX7_follow_29 (by decide) rfl ?_
    rw [show gR g (fun j => if j < 16 then 0 else g (2619 + j)) (fun j => if j < 16 then 0 else g (2635 + j)) = gR g (folR f 0) (xsR ch (folR f 0)) from gR_cg (fun k hk => ⟨if_pos hk, (if_pos hk).trans (xs_zero ch).symm⟩)]
    exact lb_X7_follow l D B hm hi hJ 0 (by omega) _ _ _ _
  · have hlt : k < 16 := zlt_of (N := 16) (by decide) (by omega) rfl c5
    refine zv_aload_n dX7_follow_8 rfl ?_
    refine zv_getS (r := 10) hm rfl fl_X7_38 rfl dX7_follow_9 ?_
    refine zv_iload_n dX7_follow_12 rfl ?_
    refine zv_iconst (v := 0) dX7_follow_13 (by decide) ?_
    refine zv_iast (i := 10) hm rfl (zix_nI (by omega) (by decide)) dX7_follow_14 ?_
    rw [mS_f (by omega), gR_us hlt]
    refine zv_aload_n dX7_follow_15 rfl ?_
    refine zv_getS (r := 11) hm rfl fl_X7_41 rfl dX7_follow_16 ?_
    refine zv_iload_n dX7_follow_19 rfl ?_
    refine zv_iconst (v := 0) dX7_follow_20 (by decide) ?_
    refine zv_iast (i := 11) hm rfl (zix_nI (by omega) (by decide)) dX7_follow_21 ?_
    rw [mS_f (by omega), gR_uv hlt]
    refine zv_iinc1 dX7_follow_22 rfl (by decide) rfl ?_
    refine zv_goto (tgt := 2) dX7_follow_25 (by decide) ?_
    rw [nI_1]
    have ih1 := ih hlt
    rw [show gR g (fun j => if j < k + 1 then 0 else g (2619 + j)) (fun j => if j < k + 1 then 0 else g (2635 + j)) = gR g (upd (fun j => if j < k then 0 else g (2619 + j)) k 0) (upd (fun j => if j < k then 0 else g (2635 + j)) k 0) from by
      congr 1 <;> funext j <;> simp only [upd] <;> grind] at ih1
    exact ih1

set_option maxRecDepth 100000 in
set_option maxHeartbeats 4000000 in
theorem m_X7_follow (l : Launch) (D : zD) (B : Nat) {L : zL} {nx : Nat} {G : zG} {m i n t : Nat} {g r f ch : Nat → Int32} (hm : (m, 8) ∈ L) (hi : i < 3) (hJ : zCJ n ch f t) : zMet l D B yX7_follow cX7_follow 7 (some .int) 1 22 0 0 [.ref m, .int (nI i)] L nx (mS G m g r i (f)) (zI (folM f) L nx (fun G1 => G1 = mS G m (gR g (folR f t) (xsR ch (folR f t))) r i f)) := by
  refine zMet_of (own := RX7) (mn := "follow") [some (.ref m), some (.int (nI i)), none, none, none, none, none] (by decide +kernel) rfl rfl rfl (Nat.le_of_ble_eq_true rfl) ?_
  show zV l (fun _ => True) D B RX7 "follow" cX7_follow 7 (some .int) (zrm 1 22 0 0) (zN (zI (folM f) L nx (fun G1 => G1 = mS G m (gR g (folR f t) (xsR ch (folR f t))) r i f))) 0 0 L nx 0 [some (.ref m), some (.int (nI i)), none, none, none, none, none] [] ((mS G m g r i (f)))
  refine zv_iconst (v := 0) dX7_follow_0 (by decide) ?_
  refine zv_istore_n dX7_follow_1 (by decide) rfl ?_
  rw [← mskF_folM hJ]
  have := la_X7_follow l D B (G := G) (nx := nx) (g := g) (r := r) hm hi hJ 0 (by omega)
  rw [show gR g (fun j => if j < 0 then 0 else g (2619 + j)) (fun j => if j < 0 then 0 else g (2635 + j)) = g from by
    rw [gR_cg (R' := fun k => g (2619 + k)) (V' := fun k => g (2635 + k)) (fun k _ => ⟨if_neg (by omega), if_neg (by omega)⟩)]
    exact gR_e] at this
  exact this
