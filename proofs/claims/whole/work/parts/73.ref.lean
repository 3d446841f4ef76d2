set_option maxRecDepth 100000 in
set_option maxHeartbeats 4000000 in
theorem m_X7_degreeBy (l : Launch) (D : zD) (B : Nat) {L : zL} {nx : Nat} {G : zG} {m : Nat} (hm : (m, 8) ∈ L) {w x n : Nat} (h20 : G m 20 = nI n) (h18 : G m 18 = nI w) (hw : w ≤ 2) (hx : x < 65537) (hn : 0 < n) (hn16 : n ≤ 16) : zMet l D B yX7_degreeBy cX7_degreeBy 5 (some .int) 0 0 0 0 [.ref m, .int (nI x)] L nx G (zE (some (.int (nI (zdeg w x n)))) L nx (G)) := by
  refine zMet_of (own := RX7) (mn := "degreeBy") [some (.ref m), some (.int (nI x)), none, none, none] (by decide +kernel) rfl rfl rfl (Nat.le_of_ble_eq_true rfl) ?_
  show zV l (fun _ => True) D B RX7 "degreeBy" cX7_degreeBy 5 (some .int) (zrm 0 0 0 0) (zN (zE (some (.int (nI (zdeg w x n)))) L nx (G))) 0 0 L nx 0 [some (.ref m), some (.int (nI x)), none, none, none] [] (G)
  refine zv_aload_n dX7_degreeBy_0 rfl ?_
  refine zv_getS (r := 1) hm rfl fl_X7_7 rfl dX7_degreeBy_1 ?_
  refine zv_iconst (v := 2) dX7_degreeBy_4 (by decide) ?_
  refine zv_iald (i := 1) hm rfl (zix_nI (i := 2) (by omega) (by decide)) dX7_degreeBy_5 ?_
  rw [show G m (18 + 2) = nI n from h20]
  refine zv_istore_n dX7_degreeBy_6 (by decide) rfl ?_
  refine zv_aload_n dX7_degreeBy_7 rfl ?_
  refine zv_getS (r := 1) hm rfl fl_X7_7 rfl dX7_degreeBy_8 ?_
  refine zv_iconst (v := 0) dX7_degreeBy_11 (by decide) ?_
  refine zv_iald (i := 1) hm rfl (zix_nI (i := 0) (by omega) (by decide)) dX7_degreeBy_12 ?_
  rw [show G m (18 + 0) = nI w from h18]
  refine zv_if_ne (tgt := 22) dX7_degreeBy_13 (by decide) (fun c13 => ?_) (fun c13 => ?_)
  · have k0 : ¬ w = 0 := fun e => c13 (by rw [e]; rfl)
    refine zv_aload_n dX7_degreeBy_22 rfl ?_
    refine zv_getS (r := 1) hm rfl fl_X7_7 rfl dX7_degreeBy_23 ?_
    refine zv_iconst (v := 0) dX7_degreeBy_26 (by decide) ?_
    refine zv_iald (i := 1) hm rfl (zix_nI (i := 0) (by omega) (by decide)) dX7_degreeBy_27 ?_
    rw [show G m (18 + 0) = nI w from h18]
    refine zv_iconst (v := 2) dX7_degreeBy_28 (by decide) ?_
    refine zv_icmp_ne (tgt := 44) dX7_degreeBy_29 (by decide) (fun c29 => ?_) (fun c29 => ?_)
    · have k2 : ¬ w = 2 := fun e => c29 (by rw [e]; rfl)
      have k1 : w = 1 := by omega
      refine zv_iload_n dX7_degreeBy_44 rfl ?_
      refine zv_bipush (v := 24) dX7_degreeBy_45 (by decide) ?_
      refine zv_irem dX7_degreeBy_47 (by decide) ?_
      rw [show nI x - nI x / 24 * 24 = nI (x % 24) from pk_rem (d := 24) (by omega) (by omega) (by omega)]
      have hcb := cdeg_b (x % 24)
      refine zv_istore_n dX7_degreeBy_48 (by decide) rfl ?_
      refine zv_iload_n dX7_degreeBy_49 rfl ?_
      refine zv_iconst (v := 4) dX7_degreeBy_50 (by decide) ?_
      refine zv_icmp_ge (tgt := 58) dX7_degreeBy_51 (by decide) (fun c51 => ?_) (fun c51 => ?_)
      · have k51 : 4 ≤ x % 24 := zge_of (N := 4) (by decide) (by omega) rfl c51
        refine zv_iload_n dX7_degreeBy_58 rfl ?_
        refine zv_bipush (v := 16) dX7_degreeBy_59 (by decide) ?_
        refine zv_icmp_ge (tgt := 68) dX7_degreeBy_61 (by decide) (fun c61 => ?_) (fun c61 => ?_)
        · have k61 : 16 ≤ x % 24 := zge_of (N := 16) (by decide) (by omega) rfl c61
          refine zv_iload_n dX7_degreeBy_68 rfl ?_
          refine zv_bipush (v := 20) dX7_degreeBy_69 (by decide) ?_
          refine zv_icmp_ge (tgt := 78) dX7_degreeBy_71 (by decide) (fun c71 => ?_) (fun c71 => ?_)
          · have k71 : 20 ≤ x % 24 := zge_of (N := 20) (by decide) (by omega) rfl c71
            refine zv_iconst (v := 4) dX7_degreeBy_78 (by decide) ?_
            have hc : ∃ d, cdeg (x % 24) = d ∧ (d = 1 ∨ d = 2 ∨ d = 3 ∨ d = 4) := ⟨_, rfl, by omega⟩
            refine zv_istore dX7_degreeBy_79 (by decide) rfl ?_
            first
              | (have hc : cdeg (x % 24) = 1 := by unfold cdeg; rw [if_pos k51]
                 rw [show (1 : Int32) = nI (cdeg (x % 24)) by rw [hc]; rfl])
              | (have hc : cdeg (x % 24) = 2 := by unfold cdeg; rw [if_neg (by omega), if_pos k61]
                 rw [show (2 : Int32) = nI (cdeg (x % 24)) by rw [hc]; rfl])
              | (have hc : cdeg (x % 24) = 3 := by unfold cdeg; rw [if_neg (by omega), if_neg (by omega), if_pos k71]
                 rw [show (3 : Int32) = nI (cdeg (x % 24)) by rw [hc]; rfl])
              | (have hc : cdeg (x % 24) = 4 := by unfold cdeg; rw [if_neg (by omega), if_neg (by omega), if_neg (by omega)]
                 rw [show (4 : Int32) = nI (cdeg (x % 24)) by rw [hc]; rfl])
            refine zv_iload dX7_degreeBy_81 rfl ?_
            refine zv_iload_n dX7_degreeBy_83 rfl ?_
            refine zv_icmp_ge (tgt := 92) dX7_degreeBy_84 (by decide) (fun c84 => ?_) (fun c84 => ?_)
            · have k84 : n ≤ cdeg (x % 24) := (nI_leI (by omega) (by omega)).mp c84
              refine zv_iload_n dX7_degreeBy_92 rfl ?_
              refine zv_iretE dX7_degreeBy_93 rfl (rfl) ?_ ?_
              · have hz : zdeg w x n = (if cdeg (x % 24) ≤ n then cdeg (x % 24) else n) := by unfold zdeg; rw [if_pos k1]
                rw [hz]
                by_cases e : cdeg (x % 24) ≤ n
                · rw [if_pos e]
                  try (rw [show cdeg (x % 24) = n by omega])
                · rw [if_neg e]
                  try (exfalso; omega)
              · rfl
            · have k84 : ¬ n ≤ cdeg (x % 24) := fun h => c84 (nI_le h (by omega))
              refine zv_iload dX7_degreeBy_87 rfl ?_
              refine zv_goto (tgt := 93) dX7_degreeBy_89 (by decide) ?_
              refine zv_iretE dX7_degreeBy_93 rfl (rfl) ?_ ?_
              · have hz : zdeg w x n = (if cdeg (x % 24) ≤ n then cdeg (x % 24) else n) := by unfold zdeg; rw [if_pos k1]
                rw [hz]
                by_cases e : cdeg (x % 24) ≤ n
                · rw [if_pos e]
                  try (rw [show cdeg (x % 24) = n by omega])
                · rw [if_neg e]
                  try (exfalso; omega)
              · rfl
          · have k71 : x % 24 < 20 := zlt_of (N := 20) (by decide) (by omega) rfl c71
            refine zv_iconst (v := 3) dX7_degreeBy_74 (by decide) ?_
            refine zv_goto (tgt := 79) dX7_degreeBy_75 (by decide) ?_
            have hc : ∃ d, cdeg (x % 24) = d ∧ (d = 1 ∨ d = 2 ∨ d = 3 ∨ d = 4) := ⟨_, rfl, by omega⟩
            refine zv_istore dX7_degreeBy_79 (by decide) rfl ?_
            first
              | (have hc : cdeg (x % 24) = 1 := by unfold cdeg; rw [if_pos k51]
                 rw [show (1 : Int32) = nI (cdeg (x % 24)) by rw [hc]; rfl])
              | (have hc : cdeg (x % 24) = 2 := by unfold cdeg; rw [if_neg (by omega), if_pos k61]
                 rw [show (2 : Int32) = nI (cdeg (x % 24)) by rw [hc]; rfl])
              | (have hc : cdeg (x % 24) = 3 := by unfold cdeg; rw [if_neg (by omega), if_neg (by omega), if_pos k71]
                 rw [show (3 : Int32) = nI (cdeg (x % 24)) by rw [hc]; rfl])
              | (have hc : cdeg (x % 24) = 4 := by unfold cdeg; rw [if_neg (by omega), if_neg (by omega), if_neg (by omega)]
                 rw [show (4 : Int32) = nI (cdeg (x % 24)) by rw [hc]; rfl])
            refine zv_iload dX7_degreeBy_81 rfl ?_
            refine zv_iload_n dX7_degreeBy_83 rfl ?_
            refine zv_icmp_ge (tgt := 92) dX7_degreeBy_84 (by decide) (fun c84 => ?_) (fun c84 => ?_)
            · have k84 : n ≤ cdeg (x % 24) := (nI_leI (by omega) (by omega)).mp c84
              refine zv_iload_n dX7_degreeBy_92 rfl ?_
              refine zv_iretE dX7_degreeBy_93 rfl (rfl) ?_ ?_
              · have hz : zdeg w x n = (if cdeg (x % 24) ≤ n then cdeg (x % 24) else n) := by unfold zdeg; rw [if_pos k1]
                rw [hz]
                by_cases e : cdeg (x % 24) ≤ n
                · rw [if_pos e]
                  try (rw [show cdeg (x % 24) = n by omega])
                · rw [if_neg e]
                  try (exfalso; omega)
              · rfl
            · have k84 : ¬ n ≤ cdeg (x % 24) := fun h => c84 (nI_le h (by omega))
              refine zv_iload dX7_degreeBy_87 rfl ?_
              refine zv_goto (tgt := 93) dX7_degreeBy_89 (by decide) ?_
              refine zv_iretE dX7_degreeBy_93 rfl (rfl) ?_ ?_
              · have hz : zdeg w x n = (if cdeg (x % 24) ≤ n then cdeg (x % 24) else n) := by unfold zdeg; rw [if_pos k1]
                rw [hz]
                by_cases e : cdeg (x % 24) ≤ n
                · rw [if_pos e]
                  try (rw [show cdeg (x % 24) = n by omega])
                · rw [if_neg e]
                  try (exfalso; omega)
              · rfl
        · have k61 : x % 24 < 16 := zlt_of (N := 16) (by decide) (by omega) rfl c61
          refine zv_iconst (v := 2) dX7_degreeBy_64 (by decide) ?_
          refine zv_goto (tgt := 79) dX7_degreeBy_65 (by decide) ?_
          have hc : ∃ d, cdeg (x % 24) = d ∧ (d = 1 ∨ d = 2 ∨ d = 3 ∨ d = 4) := ⟨_, rfl, by omega⟩
          refine zv_istore dX7_degreeBy_79 (by decide) rfl ?_
          first
            | (have hc : cdeg (x % 24) = 1 := by unfold cdeg; rw [if_pos k51]
               rw [show (1 : Int32) = nI (cdeg (x % 24)) by rw [hc]; rfl])
            | (have hc : cdeg (x % 24) = 2 := by unfold cdeg; rw [if_neg (by omega), if_pos k61]
               rw [show (2 : Int32) = nI (cdeg (x % 24)) by rw [hc]; rfl])
            | (have hc : cdeg (x % 24) = 3 := by unfold cdeg; rw [if_neg (by omega), if_neg (by omega), if_pos k71]
               rw [show (3 : Int32) = nI (cdeg (x % 24)) by rw [hc]; rfl])
            | (have hc : cdeg (x % 24) = 4 := by unfold cdeg; rw [if_neg (by omega), if_neg (by omega), if_neg (by omega)]
               rw [show (4 : Int32) = nI (cdeg (x % 24)) by rw [hc]; rfl])
          refine zv_iload dX7_degreeBy_81 rfl ?_
          refine zv_iload_n dX7_degreeBy_83 rfl ?_
          refine zv_icmp_ge (tgt := 92) dX7_degreeBy_84 (by decide) (fun c84 => ?_) (fun c84 => ?_)
          · have k84 : n ≤ cdeg (x % 24) := (nI_leI (by omega) (by omega)).mp c84
            refine zv_iload_n dX7_degreeBy_92 rfl ?_
            refine zv_iretE dX7_degreeBy_93 rfl (rfl) ?_ ?_
            · have hz : zdeg w x n = (if cdeg (x % 24) ≤ n then cdeg (x % 24) else n) := by unfold zdeg; rw [if_pos k1]
              rw [hz]
              by_cases e : cdeg (x % 24) ≤ n
              · rw [if_pos e]
                try (rw [show cdeg (x % 24) = n by omega])
              · rw [if_neg e]
                try (exfalso; omega)
            · rfl
          · have k84 : ¬ n ≤ cdeg (x % 24) := fun h => c84 (nI_le h (by omega))
            refine zv_iload dX7_degreeBy_87 rfl ?_
            refine zv_goto (tgt := 93) dX7_degreeBy_89 (by decide) ?_
            refine zv_iretE dX7_degreeBy_93 rfl (rfl) ?_ ?_
            · have hz : zdeg w x n = (if cdeg (x % 24) ≤ n then cdeg (x % 24) else n) := by unfold zdeg; rw [if_pos k1]
              rw [hz]
              by_cases e : cdeg (x % 24) ≤ n
              · rw [if_pos e]
                try (rw [show cdeg (x % 24) = n by omega])
              · rw [if_neg e]
                try (exfalso; omega)
            · rfl
      · have k51 : x % 24 < 4 := zlt_of (N := 4) (by decide) (by omega) rfl c51
        refine zv_iconst (v := 1) dX7_degreeBy_54 (by decide) ?_
        refine zv_goto (tgt := 79) dX7_degreeBy_55 (by decide) ?_
        have hc : ∃ d, cdeg (x % 24) = d ∧ (d = 1 ∨ d = 2 ∨ d = 3 ∨ d = 4) := ⟨_, rfl, by omega⟩
        refine zv_istore dX7_degreeBy_79 (by decide) rfl ?_
        first
          | (have hc : cdeg (x % 24) = 1 := by unfold cdeg; rw [if_pos k51]
             rw [show (1 : Int32) = nI (cdeg (x % 24)) by rw [hc]; rfl])
          | (have hc : cdeg (x % 24) = 2 := by unfold cdeg; rw [if_neg (by omega), if_pos k61]
             rw [show (2 : Int32) = nI (cdeg (x % 24)) by rw [hc]; rfl])
          | (have hc : cdeg (x % 24) = 3 := by unfold cdeg; rw [if_neg (by omega), if_neg (by omega), if_pos k71]
             rw [show (3 : Int32) = nI (cdeg (x % 24)) by rw [hc]; rfl])
          | (have hc : cdeg (x % 24) = 4 := by unfold cdeg; rw [if_neg (by omega), if_neg (by omega), if_neg (by omega)]
             rw [show (4 : Int32) = nI (cdeg (x % 24)) by rw [hc]; rfl])
        refine zv_iload dX7_degreeBy_81 rfl ?_
        refine zv_iload_n dX7_degreeBy_83 rfl ?_
        refine zv_icmp_ge (tgt := 92) dX7_degreeBy_84 (by decide) (fun c84 => ?_) (fun c84 => ?_)
        · have k84 : n ≤ cdeg (x % 24) := (nI_leI (by omega) (by omega)).mp c84
          refine zv_iload_n dX7_degreeBy_92 rfl ?_
          refine zv_iretE dX7_degreeBy_93 rfl (rfl) ?_ ?_
          · have hz : zdeg w x n = (if cdeg (x % 24) ≤ n then cdeg (x % 24) else n) := by unfold zdeg; rw [if_pos k1]
            rw [hz]
            by_cases e : cdeg (x % 24) ≤ n
            · rw [if_pos e]
              try (rw [show cdeg (x % 24) = n by omega])
            · rw [if_neg e]
              try (exfalso; omega)
          · rfl
        · have k84 : ¬ n ≤ cdeg (x % 24) := fun h => c84 (nI_le h (by omega))
          refine zv_iload dX7_degreeBy_87 rfl ?_
          refine zv_goto (tgt := 93) dX7_degreeBy_89 (by decide) ?_
          refine zv_iretE dX7_degreeBy_93 rfl (rfl) ?_ ?_
          · have hz : zdeg w x n = (if cdeg (x % 24) ≤ n then cdeg (x % 24) else n) := by unfold zdeg; rw [if_pos k1]
            rw [hz]
            by_cases e : cdeg (x % 24) ≤ n
            · rw [if_pos e]
              try (rw [show cdeg (x % 24) = n by omega])
            · rw [if_neg e]
              try (exfalso; omega)
          · rfl
    · have k2 : w = 2 := (nI_eq (by omega) (by decide)).mp c29
      refine zv_iload_n dX7_degreeBy_32 rfl ?_
      refine zv_iconst (v := 4) dX7_degreeBy_33 (by decide) ?_
      refine zv_irem dX7_degreeBy_34 (by decide) ?_
      rw [show nI x - nI x / 4 * 4 = nI (x % 4) from pk_rem (d := 4) (by omega) (by omega) (by omega)]
      refine zv_if_ne (tgt := 42) dX7_degreeBy_35 (by decide) (fun c35 => ?_) (fun c35 => ?_)
      · have k25 : ¬ x % 4 = 0 := fun e => c35 (by rw [e]; rfl)
        refine zv_iload_n dX7_degreeBy_42 rfl ?_
        refine zv_iretE dX7_degreeBy_43 rfl (rfl) ?_ ?_
        · first
            | (unfold zdeg; rw [if_neg (by omega), if_pos k2, if_pos k25]; rfl)
            | (unfold zdeg; rw [if_neg (by omega), if_pos k2, if_neg k25])
        · rfl
      · have k25 : x % 4 = 0 := (nI_eq (by omega) (by decide)).mp c35
        refine zv_iconst (v := 1) dX7_degreeBy_38 (by decide) ?_
        refine zv_goto (tgt := 43) dX7_degreeBy_39 (by decide) ?_
        refine zv_iretE dX7_degreeBy_43 rfl (rfl) ?_ ?_
        · first
            | (unfold zdeg; rw [if_neg (by omega), if_pos k2, if_pos k25]; rfl)
            | (unfold zdeg; rw [if_neg (by omega), if_pos k2, if_neg k25])
        · rfl
  · have k0 : w = 0 := (nI_eq (by omega) (by decide)).mp c13
    refine zv_iconst (v := 1) dX7_degreeBy_16 (by decide) ?_
    refine zv_iload_n dX7_degreeBy_17 rfl ?_
    refine zv_iload_n dX7_degreeBy_18 rfl ?_
    refine zv_irem dX7_degreeBy_19 (nI_ne0 hn (by omega)) ?_
    refine zv_iadd dX7_degreeBy_20 ?_
    refine zv_iretE dX7_degreeBy_21 rfl (rfl) ?_ ?_
    · unfold zdeg
      rw [if_neg (by omega), if_neg (by omega), pk_rem (by omega) hn (by omega), show (1 : Int32) = nI 1 from rfl, nI_add]
    · rfl

set_option maxRecDepth 100000 in
set_option maxHeartbeats 4000000 in
theorem nc_X7_make (l : Launch) (D : zD) (B : Nat) {L : zL} {nx : Nat} {G : zG} {m : Nat} (hm : (m, 8) ∈ L) {n R sd x i : Nat} {s : Int32} (hn : 0 < n) (hn16 : n ≤ 16) (hs : G m 14 = s) (hR : zb s R = false) {P : zP} (kk : zV l (fun _ => True) D B RX7 "make" cX7_make 6 none (zrm 1 24 0 0) P 0 0 L nx 114 [some (.ref m), some (.int (nI sd)), some (.int (nI n)), some (.int (nI x)), some (.int (nI i)), some (.int (nI R))] [] (G)) : ∀ f c : Nat, c < n → nf s n c f = R → zV l (fun _ => True) D B RX7 "make" cX7_make 6 none (zrm 1 24 0 0) P 0 0 L nx 80 [some (.ref m), some (.int (nI sd)), some (.int (nI n)), some (.int (nI x)), some (.int (nI i)), some (.int (nI c))] [] (G) := by
  intro f
  induction f with
  | zero =>
    intro c hc hf
    unfold nf at hf
    subst hf
    refine zv_aload_n dX7_make_80 rfl ?_
    refine zv_getI hm rfl fl_X7_81 rfl dX7_make_81 ?_
    refine zv_iload dX7_make_84 rfl ?_
    refine zv_ishr dX7_make_86 ?_
    refine zv_iconst (v := 1) dX7_make_87 (by decide) ?_
    refine zv_iand dX7_make_88 ?_
    rw [hs, zb_test _ (by omega)]
    refine zv_iconst (v := 1) dX7_make_89 (by decide) ?_
    refine zv_icmp_ne (tgt := 114) dX7_make_90 (by decide) (fun _ => ?_) (fun h => absurd h (by rw [hR]; decide))
    exact kk
  | succ f ih =>
    intro c hc hf
    unfold nf at hf
    refine zv_aload_n dX7_make_80 rfl ?_
    refine zv_getI hm rfl fl_X7_81 rfl dX7_make_81 ?_
    refine zv_iload dX7_make_84 rfl ?_
    refine zv_ishr dX7_make_86 ?_
    refine zv_iconst (v := 1) dX7_make_87 (by decide) ?_
    refine zv_iand dX7_make_88 ?_
    rw [hs, zb_test _ (by omega)]
    refine zv_iconst (v := 1) dX7_make_89 (by decide) ?_
    refine zv_icmp_ne (tgt := 114) dX7_make_90 (by decide) (fun c90 => ?_) (fun c90 => ?_)
    · rw [if_neg (fun h => c90 (bI_1.mpr h))] at hf
      subst hf
      exact kk
    · rw [if_pos (bI_1.mp c90)] at hf
      refine zv_iload dX7_make_93 rfl ?_
      refine zv_iconst (v := 1) dX7_make_95 (by decide) ?_
      refine zv_iadd dX7_make_96 ?_
      rw [nI_1]
      refine zv_iload_n dX7_make_97 rfl ?_
      refine zv_icmp_ne (tgt := 105) dX7_make_98 (by decide) (fun c98 => ?_) (fun c98 => ?_)
      · have k98 : c + 1 < n := by
          have : ¬ c + 1 = n := fun e => c98 (by rw [e])
          omega
        rw [if_pos k98] at hf
        refine zv_iload dX7_make_105 rfl ?_
        refine zv_iconst (v := 1) dX7_make_107 (by decide) ?_
        refine zv_iadd dX7_make_108 ?_
        refine zv_istore dX7_make_109 (by decide) rfl ?_
        refine zv_goto (tgt := 80) dX7_make_111 (by decide) ?_
        first
          | exact ih 0 (by omega) hf
          | (rw [nI_1]; exact ih (c + 1) k98 hf)
      · have k98 : c + 1 = n := (nI_eq (by omega) (by omega)).mp c98
        rw [if_neg (by omega)] at hf
        refine zv_iconst (v := 0) dX7_make_101 (by decide) ?_
        refine zv_goto (tgt := 109) dX7_make_102 (by decide) ?_
        refine zv_istore dX7_make_109 (by decide) rfl ?_
        refine zv_goto (tgt := 80) dX7_make_111 (by decide) ?_
        first
          | exact ih 0 (by omega) hf
          | (rw [nI_1]; exact ih (c + 1) k98 hf)

set_option maxRecDepth 100000 in
set_option maxHeartbeats 4000000 in
theorem lp_X7_make (l : Launch) (D : zD) (B : Nat) {L : zL} {nx : Nat} {G : zG} {m : Nat} (hm : (m, 8) ∈ L) {w n sd : Nat} {ch : Nat → Int32} (h20 : G m 20 = nI n) (h18 : G m 18 = nI w) (hw : w ≤ 2) (hn : 0 < n) (hn16 : n ≤ 16) (hch : ∀ k, k < 16 → G m (23 + k) = ch k) (hsd : sd < 65537) : ∀ i : Nat, i ≤ (zdeg w (zdw (zdw sd)) n) → ∀ a : Option Value, zV l (fun _ => True) D B RX7 "make" cX7_make 6 none (zrm 1 24 0 0) (zN (zE none L nx (zst G m (mkM (G m) (mkP (fun _ => 0) w (G m 19) n ch sd))))) 0 0 L nx 61 [some (.ref m), some (.int (nI sd)), some (.int (nI n)), some (.int (nI (mkX (zdw (zdw sd)) i))), some (.int (nI i)), a] [] (zst G m (mkMi (G m) (bI (decide (nI (zdw sd % 100) < G m 19))) (zdeg w (zdw (zdw sd)) n) n ch (zdw (zdw sd)) i)) := by
  refine zloop _ (fun i hi ih a => ?_)
  have hdb := zdeg_b (w := w) (x := (zdw (zdw sd))) hn
  refine zv_iload dX7_make_61 rfl ?_
  refine zv_aload_n dX7_make_63 rfl ?_
  refine zv_getI hm rfl fl_X7_78 rfl dX7_make_64 ?_
  rw [zst_same, show mkMi (G m) (bI (decide (nI (zdw sd % 100) < G m 19))) (zdeg w (zdw (zdw sd)) n) n ch (zdw (zdw sd)) i 13 = nI (zdeg w (zdw (zdw sd)) n) from rfl]
  refine zv_icmp_ge (tgt := 151) dX7_make_67 (by decide) (fun c67 => ?_) (fun c67 => ?_)
  · have e : i = (zdeg w (zdw (zdw sd)) n) := by have := (nI_leI (by omega) (by omega)).mp c67; omega
    subst e
    refine zv_vretE dX7_make_151 rfl ?_
    rw [← mkMi_e]
  · have hlt : i < (zdeg w (zdw (zdw sd)) n) := by
      rcases Nat.lt_or_ge i (zdeg w (zdw (zdw sd)) n) with h | h
      · exact h
      · exact absurd (nI_le h (by omega)) c67
    have hxl := mkX_lt (zdw_lt (zdw sd)) i
    have hxl2 := mkX_lt (zdw_lt (zdw sd)) (i + 1)
    obtain ⟨i1, i2, i3⟩ := mk_inv (x0 := (zdw (zdw sd))) hn hn16 i (by omega)
    have hfree := i3 (by omega)
    have hC := mkC_lt (x0 := (zdw (zdw sd))) (i := i) hn
    refine zv_iload_n dX7_make_70 rfl ?_
    refine zv_callS (m_draw l D B hxl) ml_X7_68 st_X7_draw rfl rfl (Nat.le_of_ble_eq_true rfl) dX7_make_71 ⟨Nat.le_of_ble_eq_true rfl, Nat.le_of_ble_eq_true rfl⟩ ⟨Nat.le_refl _, Nat.le_refl _⟩ (zk_i ?_)
    rw [show zdw (mkX (zdw (zdw sd)) i) = mkX (zdw (zdw sd)) (i + 1) from rfl]
    refine zv_istore_n dX7_make_74 (by decide) rfl ?_
    refine zv_iload_n dX7_make_75 rfl ?_
    refine zv_iload_n dX7_make_76 rfl ?_
    refine zv_irem dX7_make_77 (nI_ne0 hn (by omega)) ?_
    rw [pk_rem (by omega) hn (by omega)]
    refine zv_istore dX7_make_78 (by decide) rfl ?_
    refine nc_X7_make l D B hm (R := mkC n (zdw (zdw sd)) i) (s := mkSet n (zdw (zdw sd)) i) hn hn16 (by rw [zst_same]; rfl) hfree ?_ 16 _ (Nat.mod_lt _ hn) rfl
    refine zv_aload_n dX7_make_114 rfl ?_
    refine zv_dup dX7_make_115 rfl ?_
    refine zv_getI hm rfl fl_X7_81 rfl dX7_make_116 ?_
    refine zv_iconst (v := 1) dX7_make_119 (by decide) ?_
    refine zv_iload dX7_make_120 rfl ?_
    refine zv_ishl dX7_make_122 ?_
    refine zv_ior dX7_make_123 ?_
    refine zv_putI (t := 8) hm rfl fl_X7_81 ft_X7_14 rfl dX7_make_124 ?_
    refine zv_aload_n dX7_make_127 rfl ?_
    refine zv_dup dX7_make_128 rfl ?_
    refine zv_getI hm rfl fl_X7_84 rfl dX7_make_129 ?_
    refine zv_aload_n dX7_make_132 rfl ?_
    refine zv_getS (r := 1) hm rfl fl_X7_7 rfl dX7_make_133 ?_
    refine zv_iconst (v := 5) dX7_make_136 (by decide) ?_
    refine zv_iload dX7_make_137 rfl ?_
    refine zv_iadd dX7_make_139 ?_
    rw [show (5 : Int32) + nI (mkC n (zdw (zdw sd)) i) = nI (5 + mkC n (zdw (zdw sd)) i) from nI_add 5 _]
    refine zv_iald (i := 1) hm rfl (zix_nI (by omega) (by decide)) dX7_make_140 ?_
    refine zv_ixor dX7_make_141 ?_
    refine zv_putI (t := 8) hm rfl fl_X7_84 ft_X7_15 rfl dX7_make_142 ?_
    refine zv_iinc1 dX7_make_145 rfl (by decide) rfl ?_
    refine zv_goto (tgt := 61) dX7_make_148 (by decide) ?_
    rw [nI_1]
    refine zv_eqG ?_ (ih hlt _)
    simp only [zst_same, zst_zst]
    rw [← mkMi_s]
    have e1 : upd (mkMi (G m) (bI (decide (nI (zdw sd % 100) < G m 19))) (zdeg w (zdw (zdw sd)) n) n ch (zdw (zdw sd)) i) 14 (mkMi (G m) (bI (decide (nI (zdw sd % 100) < G m 19))) (zdeg w (zdw (zdw sd)) n) n ch (zdw (zdw sd)) i 14 ||| 1 <<< (nI (mkC n (zdw (zdw sd)) i) &&& 31)) = upd (mkMi (G m) (bI (decide (nI (zdw sd % 100) < G m 19))) (zdeg w (zdw (zdw sd)) n) n ch (zdw (zdw sd)) i) 14 (mkSet n (zdw (zdw sd)) (i + 1)) := rfl
    rw [e1]
    have e2 : upd (mkMi (G m) (bI (decide (nI (zdw sd % 100) < G m 19))) (zdeg w (zdw (zdw sd)) n) n ch (zdw (zdw sd)) i) 14 (mkSet n (zdw (zdw sd)) (i + 1)) 15 = mkNum ch n (zdw (zdw sd)) i := rfl
    have e3 : upd (mkMi (G m) (bI (decide (nI (zdw sd % 100) < G m 19))) (zdeg w (zdw (zdw sd)) n) n ch (zdw (zdw sd)) i) 14 (mkSet n (zdw (zdw sd)) (i + 1)) (18 + (5 + mkC n (zdw (zdw sd)) i)) = ch (mkC n (zdw (zdw sd)) i) := by
      simp only [upd]
      rw [if_neg (by omega), mkMi_o (by omega), ← hch _ (by omega), show 18 + (5 + mkC n (zdw (zdw sd)) i) = 23 + mkC n (zdw (zdw sd)) i by omega]
    rw [e2, e3]
    rfl

set_option maxRecDepth 100000 in
set_option maxHeartbeats 4000000 in
theorem m_X7_make (l : Launch) (D : zD) (B : Nat) {L : zL} {nx : Nat} {G : zG} {m : Nat} (hm : (m, 8) ∈ L) {w n sd : Nat} {ch : Nat → Int32} (h20 : G m 20 = nI n) (h18 : G m 18 = nI w) (hw : w ≤ 2) (hn : 0 < n) (hn16 : n ≤ 16) (hch : ∀ k, k < 16 → G m (23 + k) = ch k) (hsd : sd < 65537) : zMet l D B yX7_make cX7_make 6 none 1 24 0 0 [.ref m, .int (nI sd)] L nx G (zE none L nx (zst G m (mkM (G m) (mkP (fun _ => 0) w (G m 19) n ch sd)))) := by
  refine zMet_of (own := RX7) (mn := "make") [some (.ref m), some (.int (nI sd)), none, none, none, none] (by decide +kernel) rfl rfl rfl (Nat.le_of_ble_eq_true rfl) ?_
  show zV l (fun _ => True) D B RX7 "make" cX7_make 6 none (zrm 1 24 0 0) (zN (zE none L nx (zst G m (mkM (G m) (mkP (fun _ => 0) w (G m 19) n ch sd))))) 0 0 L nx 0 [some (.ref m), some (.int (nI sd)), none, none, none, none] [] (G)
  refine zv_aload_n dX7_make_0 rfl ?_
  refine zv_getS (r := 1) hm rfl fl_X7_7 rfl dX7_make_1 ?_
  refine zv_iconst (v := 2) dX7_make_4 (by decide) ?_
  refine zv_iald (i := 1) hm rfl (zix_nI (i := 2) (by omega) (by decide)) dX7_make_5 ?_
  rw [show G m (18 + 2) = nI n from h20]
  refine zv_istore_n dX7_make_6 (by decide) rfl ?_
  refine zv_iload_n dX7_make_7 rfl ?_
  refine zv_callS (m_draw l D B hsd) ml_X7_68 st_X7_draw rfl rfl (Nat.le_of_ble_eq_true rfl) dX7_make_8 ⟨Nat.le_of_ble_eq_true rfl, Nat.le_of_ble_eq_true rfl⟩ ⟨Nat.le_refl _, Nat.le_refl _⟩ (zk_i ?_)
  refine zv_istore_n dX7_make_11 (by decide) rfl ?_
  refine zv_aload_n dX7_make_12 rfl ?_
  refine zv_iload_n dX7_make_13 rfl ?_
  refine zv_bipush (v := 100) dX7_make_14 (by decide) ?_
  refine zv_irem dX7_make_16 (by decide) ?_
  refine zv_aload_n dX7_make_17 rfl ?_
  refine zv_getS (r := 1) hm rfl fl_X7_7 rfl dX7_make_18 ?_
  refine zv_iconst (v := 1) dX7_make_21 (by decide) ?_
  refine zv_iald (i := 1) hm rfl (zix_nI (i := 1) (by omega) (by decide)) dX7_make_22 ?_
  rw [show nI (zdw sd) - nI (zdw sd) / 100 * 100 = nI (zdw sd % 100) from pk_rem (d := 100) (by have := zdw_lt sd; omega) (by omega) (by omega)]
  refine zv_icmp_ge (tgt := 30) dX7_make_23 (by decide) (fun c23 => ?_) (fun c23 => ?_)
  · have hl0 : (0 : Int32) = (bI (decide (nI (zdw sd % 100) < G m 19))) := by rw [show decide (nI (zdw sd % 100) < G m 19) = false by simp; exact c23]; rfl
    refine zv_iconst (v := 0) dX7_make_30 (by decide) ?_
    rw [hl0]
    refine zv_putZ hm rfl fl_X7_71 ft_X7_12 rfl (bI_01 _) dX7_make_31 ?_
    refine zv_iload_n dX7_make_34 rfl ?_
    refine zv_callS (m_draw l D B (zdw_lt sd)) ml_X7_68 st_X7_draw rfl rfl (Nat.le_of_ble_eq_true rfl) dX7_make_35 ⟨Nat.le_of_ble_eq_true rfl, Nat.le_of_ble_eq_true rfl⟩ ⟨Nat.le_refl _, Nat.le_refl _⟩ (zk_i ?_)
    refine zv_istore_n dX7_make_38 (by decide) rfl ?_
    refine zv_aload_n dX7_make_39 rfl ?_
    refine zv_aload_n dX7_make_40 rfl ?_
    refine zv_iload_n dX7_make_41 rfl ?_
    refine zv_callV (m_X7_degreeBy l D B hm (w := w) (n := n) (by rw [zst_same]; exact h20) (by rw [zst_same]; exact h18) hw (zdw_lt (zdw sd)) hn hn16) ml_X7_75 in_X7_degreeBy sel_X7_degreeBy hm rfl rfl rfl rfl (Nat.le_of_ble_eq_true rfl) dX7_make_42 ⟨Nat.le_of_ble_eq_true rfl, Nat.le_of_ble_eq_true rfl⟩ ⟨Nat.le_refl _, Nat.le_refl _⟩ (zk_i ?_)
    refine zv_putI (t := 8) hm rfl fl_X7_78 ft_X7_13 rfl dX7_make_45 ?_
    refine zv_aload_n dX7_make_48 rfl ?_
    refine zv_iconst (v := 0) dX7_make_49 (by decide) ?_
    refine zv_putI (t := 8) hm rfl fl_X7_81 ft_X7_14 rfl dX7_make_50 ?_
    refine zv_aload_n dX7_make_53 rfl ?_
    refine zv_iconst (v := 0) dX7_make_54 (by decide) ?_
    refine zv_putI (t := 8) hm rfl fl_X7_84 ft_X7_15 rfl dX7_make_55 ?_
    refine zv_iconst (v := 0) dX7_make_58 (by decide) ?_
    refine zv_istore dX7_make_59 (by decide) rfl ?_
    refine zv_eqG ?_ (lp_X7_make l D B hm h20 h18 hw hn hn16 hch hsd 0 (by omega) _)
    simp only [zst_same, zst_zst]
    rfl
  · have hl0 : (1 : Int32) = (bI (decide (nI (zdw sd % 100) < G m 19))) := by rw [show decide (nI (zdw sd % 100) < G m 19) = true by simp; exact i32_nle.mp c23]; rfl
    refine zv_iconst (v := 1) dX7_make_26 (by decide) ?_
    refine zv_goto (tgt := 31) dX7_make_27 (by decide) ?_
    rw [hl0]
    refine zv_putZ hm rfl fl_X7_71 ft_X7_12 rfl (bI_01 _) dX7_make_31 ?_
    refine zv_iload_n dX7_make_34 rfl ?_
    refine zv_callS (m_draw l D B (zdw_lt sd)) ml_X7_68 st_X7_draw rfl rfl (Nat.le_of_ble_eq_true rfl) dX7_make_35 ⟨Nat.le_of_ble_eq_true rfl, Nat.le_of_ble_eq_true rfl⟩ ⟨Nat.le_refl _, Nat.le_refl _⟩ (zk_i ?_)
    refine zv_istore_n dX7_make_38 (by decide) rfl ?_
    refine zv_aload_n dX7_make_39 rfl ?_
    refine zv_aload_n dX7_make_40 rfl ?_
    refine zv_iload_n dX7_make_41 rfl ?_
    refine zv_callV (m_X7_degreeBy l D B hm (w := w) (n := n) (by rw [zst_same]; exact h20) (by rw [zst_same]; exact h18) hw (zdw_lt (zdw sd)) hn hn16) ml_X7_75 in_X7_degreeBy sel_X7_degreeBy hm rfl rfl rfl rfl (Nat.le_of_ble_eq_true rfl) dX7_make_42 ⟨Nat.le_of_ble_eq_true rfl, Nat.le_of_ble_eq_true rfl⟩ ⟨Nat.le_refl _, Nat.le_refl _⟩ (zk_i ?_)
    refine zv_putI (t := 8) hm rfl fl_X7_78 ft_X7_13 rfl dX7_make_45 ?_
    refine zv_aload_n dX7_make_48 rfl ?_
    refine zv_iconst (v := 0) dX7_make_49 (by decide) ?_
    refine zv_putI (t := 8) hm rfl fl_X7_81 ft_X7_14 rfl dX7_make_50 ?_
    refine zv_aload_n dX7_make_53 rfl ?_
    refine zv_iconst (v := 0) dX7_make_54 (by decide) ?_
    refine zv_putI (t := 8) hm rfl fl_X7_84 ft_X7_15 rfl dX7_make_55 ?_
    refine zv_iconst (v := 0) dX7_make_58 (by decide) ?_
    refine zv_istore dX7_make_59 (by decide) rfl ?_
    refine zv_eqG ?_ (lp_X7_make l D B hm h20 h18 hw hn hn16 hch hsd 0 (by omega) _)
    simp only [zst_same, zst_zst]
    rfl
