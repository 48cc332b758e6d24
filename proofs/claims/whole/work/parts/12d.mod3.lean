def rmX5_bits : Room := { frames := 5, cells := 0, slots := 0, locals := 122 }
set_option maxRecDepth 20000 in
theorem ziX5_bits_5 : ∀ w ∈ wsX50, w ∈ wsX5_bits := by decide +kernel
set_option maxHeartbeats 4000000 in
set_option maxRecDepth 100000 in
/-- bits of the reference -/
theorem c_mbits (l : Launch) (D : va_G) (cI cZ cR : ClassId) (m_ : Nat) (tw : Nat) (sp : Nat) (dp : Nat) (mb : Nat) (sz : Nat) (ah : Nat) (mi : Nat) (mp : Nat) (m1 : Nat) (m2 : Nat) (m3 : Nat) (mc : Nat) (ml : Nat) (bl : Nat) (bd : Nat) (rp : Nat) (B : Nat → Nat) (im : Nat → Nat) (pc : Nat → Nat) (P1 : Nat → Nat) (P2 : Nat → Nat) (P3 : Nat → Nat) (C : Nat → Nat) (L : Nat → Nat) (w_ : Int32) (v_ : Int32) (h0 : ah ≤ 60) (h1 : sz ≤ 300) (h2 : sp ≤ 300) (h3 : dp ≤ 64) (h4 : ∀ j, B j < 256) (h5 : zr_mrows (zr_v B ah) ah sz sp dp im pc P1 P2 P3) : zk_Wi l yX5_bits wsX5_bits rmX5_bits D (zk_t cI cZ cR) [.ref m_, .int w_, .int v_] [(m_, .inr (5, [.int (nI tw), .int (nI sp), .int (nI dp), .ref mb, .int (nI sz), .int (nI ah), .ref mi, .ref mp, .ref m1, .ref m2, .ref m3, .ref mc, .ref ml, .int (nI bl), .int (nI bd), .int (nI rp)])), (mb, zk_a cI 360 B), (mi, zk_a cZ 4 im), (mp, zk_a cI 4 pc), (m1, zk_a cI 1200 P1), (m2, zk_a cI 1200 P2), (m3, zk_a cI 1200 P3), (mc, zk_a cI 301 C), (ml, zk_a cI 41 L)] (fun (r : Int32) (u : (Nat → Nat) × (Nat → Nat) × (Nat → Nat) × (Nat → Nat) × (Nat → Nat) × (Nat → Nat) × (Nat → Nat) × Nat × Nat × Nat) => match u with | (im2, pc2, Q1, Q2, Q3, C2, L2, bl2, bd2, rp2) => (∃ X : Nat → Nat × Nat, r = zA_way w_ (fun j => zA_what v_ (nI (X j).1) (nI (X j).2)) ∧ (∀ j, j < 4 → w_ = nI j → ¬ v_ < 0 → v_ ≤ nI 1 → ∃ pb bw, zr_row j (zr_v B ah) ah sz sp dp (pc2 j) pb bw rp2 (fun k => Q1 (300 * j + k)) (fun k => Q2 (300 * j + k)) (fun k => Q3 (300 * j + k)) ∧ ((v_ = 0 ∧ (X j).1 = pb) ∨ (¬ v_ = 0 ∧ (X j).2 = bw)))) ∧ zr_mrows (zr_v B ah) ah sz sp dp im2 pc2 Q1 Q2 Q3) (fun u => match u with | (im2, pc2, Q1, Q2, Q3, C2, L2, bl2, bd2, rp2) => [(m_, .inr (5, [.int (nI 0), .int (nI sp), .int (nI dp), .ref mb, .int (nI sz), .int (nI ah), .ref mi, .ref mp, .ref m1, .ref m2, .ref m3, .ref mc, .ref ml, .int (nI bl2), .int (nI bd2), .int (nI rp2)])), (mb, zk_a cI 360 B), (mi, zk_a cZ 4 im2), (mp, zk_a cI 4 pc2), (m1, zk_a cI 1200 Q1), (m2, zk_a cI 1200 Q2), (m3, zk_a cI 1200 Q3), (mc, zk_a cI 301 C2), (ml, zk_a cI 41 L2)]) := by
  refine zk_enterI RX5 cX5_bits 3 (by decide) rfl rfl (Nat.le_of_ble_eq_true rfl) ?_
  intro p e s m args below meth c ls A Q hx hb hml hown hts hP hK hD hN hl hA hS hret
  have hl : lv_has ls 3 [(0, .ref m_), (1, .int w_), (2, .int v_)] := hl
  have f42 := hts (.fieldLink RX5 42 "MatchFindersModel" "thrown" "I") (by decide +kernel)
  refine lv_aload_n hx hb dX5_bits_0 rfl (lv_at hl 0 rfl) ?_
  refine lv_iconst (v := (nI 0)) hx hb dX5_bits_1 (by decide +kernel) ?_
  refine va_put (D := D) (ci := 5) (v := .int (nI 0)) (ty := .int) (C := RX5) (T := TX5) (N := 16) hx hb hts ziX5_bits_5 tyX5 tyX5_ok nmX5 hown hK hP (zk_D hD rfl) hS 0 rfl rfl 0 (by decide) f42 (fun _ h9 => h9) rfl (by decide +kernel) rfl rfl (Nat.le_of_ble_eq_true rfl) dX5_bits_2 (fun H locs hP _ hS => ?_)
  have hP : va_P D vwCl [(m_, .inr (5, [.int (nI 0), .int (nI sp), .int (nI dp), .ref mb, .int (nI sz), .int (nI ah), .ref mi, .ref mp, .ref m1, .ref m2, .ref m3, .ref mc, .ref ml, .int (nI bl), .int (nI bd), .int (nI rp)])), (mb, zk_a cI 360 B), (mi, zk_a cZ 4 im), (mp, zk_a cI 4 pc), (m1, zk_a cI 1200 P1), (m2, zk_a cI 1200 P2), (m3, zk_a cI 1200 P3), (mc, zk_a cI 301 C), (ml, zk_a cI 41 L)] H := hP
  refine lv_iload_n hx hb dX5_bits_5 rfl (lv_at hl 1 rfl) ?_
  refine zk_rdS (As := [.int w_]) (rest := []) ⟨hx, hb, hml, hown, hts⟩ hN (c_misWay l D cI cZ cR w_) (va_cwS 1 hts gX5_bits_X5_isWay rfl rfl rfl (by decide +kernel) ⟨Nat.le_of_ble_eq_true rfl, Nat.le_of_ble_eq_true rfl⟩) hK hP (zk_D hD rfl) [] rfl (by decide) rfl hl.1 rfl (Nat.le_of_ble_eq_true rfl) dX5_bits_6 ⟨Nat.zero_le _, Nat.zero_le _⟩ ?_
  refine lv_if_ne (tgt := 14) hx hb dX5_bits_9 (by decide) (fun c_1 => ?_) (fun c_1 => ?_)
  · skip
    obtain ⟨j, hj1, hj, hje⟩ := zk_in2 (lo := 0) (hi := 3) (by decide) (by decide) c_1
    subst hje
    refine lv_iload_n hx hb dX5_bits_14 rfl (lv_at hl 2 rfl) ?_
    refine lv_iconst (v := (nI 0)) hx hb dX5_bits_15 (by decide +kernel) ?_
    refine lv_iconst (v := (nI 1)) hx hb dX5_bits_16 (by decide +kernel) ?_
    refine zk_rdS (As := [.int v_, .int (nI 0), .int (nI 1)]) (rest := []) ⟨hx, hb, hml, hown, hts⟩ hN (c_in l D cI cZ cR v_ (nI 0) (nI 1)) (va_cwS 3 hts gX5_bits_X5_in rfl rfl rfl (by decide +kernel) ⟨Nat.le_of_ble_eq_true rfl, Nat.le_of_ble_eq_true rfl⟩) hK hP (zk_D hD rfl) [] rfl (by decide) rfl hl.1 rfl (Nat.le_of_ble_eq_true rfl) dX5_bits_17 ⟨Nat.zero_le _, Nat.zero_le _⟩ ?_
    refine lv_if_eq (tgt := 41) hx hb dX5_bits_20 (by decide) (fun c_2 => ?_) (fun c_2 => ?_)
    · skip
      have hwn := zk_in0 (lo := 0) (hi := 1) c_2
      refine lv_bipush (v := (-2)) hx hb dX5_bits_41 (by decide +kernel) ?_
      exact hret _ ls _ _ _ (im, pc, P1, P2, P3, C, L, bl, bd, rp) dX5_bits_43 ⟨⟨fun _ => (0, 0), by rw [zA_way, zk_val (show j < 4 by omega) (by decide), nI_clamp (show j < 2 ^ 31 by omega), zA_what, zk_wout2 hwn], fun i h8 h9 h7 h6 => absurd (zk_wout3 h7 h6) (fun h => h hwn)⟩, h5⟩ hP hS
    · skip
      obtain ⟨v, hv1, hv, hve⟩ := zk_in2 (lo := 0) (hi := 1) (by decide) (by decide) c_2
      subst hve
      rcases (show v = 0 ∨ v = 1 by omega) with hv0 | hv0
      · subst hv0
        refine lv_aload_n hx hb dX5_bits_23 rfl (lv_at hl 0 rfl) ?_
        refine lv_iload_n hx hb dX5_bits_24 rfl (lv_at hl 1 rfl) ?_
        refine lv_iload_n hx hb dX5_bits_25 rfl (lv_at hl 2 rfl) ?_
        refine lv_iconst (v := (nI 1)) hx hb dX5_bits_26 (by decide +kernel) ?_
        refine zk_icmp_ne (tgt := 34) hx hb (by omega) (by omega) dX5_bits_27 (by decide) (fun c_3 => ?_) (fun c_3 => absurd c_3 (by omega))
        refine lv_iconst (v := (nI 0)) hx hb dX5_bits_34 (by decide +kernel) ?_
        refine zk_wrI (As := [.int (nI j), .int (nI 0)]) (rest := []) ⟨hx, hb, hml, hown, hts⟩ hN (c_bitsOf l D cI cZ cR m_ 0 sp dp mb sz ah mi mp m1 m2 m3 mc ml bl bd rp B im pc P1 P2 P3 C L j 0 (by omega) (by omega) (by omega) (by omega) h4 h5 (by omega) (by omega)) (cwV 2 hts gX5_bits_X5_bitsOf rfl rfl rfl (by decide +kernel) ⟨Nat.le_of_ble_eq_true rfl, Nat.le_of_ble_eq_true rfl⟩) hK hP (zk_D hD rfl) hS hA [0, 1, 2, 3, 4, 5, 6, 7, 8] rfl (by decide) (fun _ => rfl) rfl rfl rfl rfl hl.1 rfl (Nat.le_of_ble_eq_true rfl) dX5_bits_35 ⟨Nat.zero_le _, Nat.zero_le _⟩ (fun r u H locs hu hP hS => ?_)
        obtain ⟨im9, pc9, R1, R2, R3, C9, L9, bl9, bd9, rp9⟩ := u
        have hu : zr_mrows (zr_v B ah) ah sz sp dp im9 pc9 R1 R2 R3 ∧ im9 j = 1 ∧ ∃ pb bw, zr_row j (zr_v B ah) ah sz sp dp (pc9 j) pb bw rp9 (fun k => R1 (300 * j + k)) (fun k => R2 (300 * j + k)) (fun k => R3 (300 * j + k)) ∧ r = nI (if 0 = 1 then bw else pb) := hu
        have hP : va_P D vwCl [(m_, .inr (5, [.int (nI 0), .int (nI sp), .int (nI dp), .ref mb, .int (nI sz), .int (nI ah), .ref mi, .ref mp, .ref m1, .ref m2, .ref m3, .ref mc, .ref ml, .int (nI bl9), .int (nI bd9), .int (nI rp9)])), (mb, zk_a cI 360 B), (mi, zk_a cZ 4 im9), (mp, zk_a cI 4 pc9), (m1, zk_a cI 1200 R1), (m2, zk_a cI 1200 R2), (m3, zk_a cI 1200 R3), (mc, zk_a cI 301 C9), (ml, zk_a cI 41 L9)] H := hP
        obtain ⟨hm1, hm2, pb9, bw9, hrow, hr9⟩ := hu
        refine lv_goto (tgt := 43) hx hb dX5_bits_38 (by decide) ?_
        exact hret _ ls _ _ _ (im9, pc9, R1, R2, R3, C9, L9, bl9, bd9, rp9) dX5_bits_43 ⟨⟨fun _ => (pb9, bw9), by rw [zA_way, zk_val (show j < 4 by omega) (by decide), nI_clamp (show j < 2 ^ 31 by omega), zA_what, zk_win (by omega) (by decide), if_pos nI_0]; rw [hr9, if_neg (by decide)], fun i h8 h9 h7 h6 => by have hij := (nI_eq (by omega) (by omega)).mp h9; subst hij; exact ⟨pb9, bw9, hrow, Or.inl ⟨nI_0, rfl⟩⟩⟩, hm1⟩ hP hS
      · subst hv0
        refine lv_aload_n hx hb dX5_bits_23 rfl (lv_at hl 0 rfl) ?_
        refine lv_iload_n hx hb dX5_bits_24 rfl (lv_at hl 1 rfl) ?_
        refine lv_iload_n hx hb dX5_bits_25 rfl (lv_at hl 2 rfl) ?_
        refine lv_iconst (v := (nI 1)) hx hb dX5_bits_26 (by decide +kernel) ?_
        refine zk_icmp_ne (tgt := 34) hx hb (by omega) (by omega) dX5_bits_27 (by decide) (fun c_4 => absurd c_4 (by omega)) (fun c_4 => ?_)
        refine lv_iconst (v := (nI 1)) hx hb dX5_bits_30 (by decide +kernel) ?_
        refine lv_goto (tgt := 35) hx hb dX5_bits_31 (by decide) ?_
        refine zk_wrI (As := [.int (nI j), .int (nI 1)]) (rest := []) ⟨hx, hb, hml, hown, hts⟩ hN (c_bitsOf l D cI cZ cR m_ 0 sp dp mb sz ah mi mp m1 m2 m3 mc ml bl bd rp B im pc P1 P2 P3 C L j 1 (by omega) (by omega) (by omega) (by omega) h4 h5 (by omega) (by omega)) (cwV 2 hts gX5_bits_X5_bitsOf rfl rfl rfl (by decide +kernel) ⟨Nat.le_of_ble_eq_true rfl, Nat.le_of_ble_eq_true rfl⟩) hK hP (zk_D hD rfl) hS hA [0, 1, 2, 3, 4, 5, 6, 7, 8] rfl (by decide) (fun _ => rfl) rfl rfl rfl rfl hl.1 rfl (Nat.le_of_ble_eq_true rfl) dX5_bits_35 ⟨Nat.zero_le _, Nat.zero_le _⟩ (fun r u H locs hu hP hS => ?_)
        obtain ⟨im9, pc9, R1, R2, R3, C9, L9, bl9, bd9, rp9⟩ := u
        have hu : zr_mrows (zr_v B ah) ah sz sp dp im9 pc9 R1 R2 R3 ∧ im9 j = 1 ∧ ∃ pb bw, zr_row j (zr_v B ah) ah sz sp dp (pc9 j) pb bw rp9 (fun k => R1 (300 * j + k)) (fun k => R2 (300 * j + k)) (fun k => R3 (300 * j + k)) ∧ r = nI (if 1 = 1 then bw else pb) := hu
        have hP : va_P D vwCl [(m_, .inr (5, [.int (nI 0), .int (nI sp), .int (nI dp), .ref mb, .int (nI sz), .int (nI ah), .ref mi, .ref mp, .ref m1, .ref m2, .ref m3, .ref mc, .ref ml, .int (nI bl9), .int (nI bd9), .int (nI rp9)])), (mb, zk_a cI 360 B), (mi, zk_a cZ 4 im9), (mp, zk_a cI 4 pc9), (m1, zk_a cI 1200 R1), (m2, zk_a cI 1200 R2), (m3, zk_a cI 1200 R3), (mc, zk_a cI 301 C9), (ml, zk_a cI 41 L9)] H := hP
        obtain ⟨hm1, hm2, pb9, bw9, hrow, hr9⟩ := hu
        refine lv_goto (tgt := 43) hx hb dX5_bits_38 (by decide) ?_
        exact hret _ ls _ _ _ (im9, pc9, R1, R2, R3, C9, L9, bl9, bd9, rp9) dX5_bits_43 ⟨⟨fun _ => (pb9, bw9), by rw [zA_way, zk_val (show j < 4 by omega) (by decide), nI_clamp (show j < 2 ^ 31 by omega), zA_what, zk_win (by omega) (by decide), if_neg (by decide +kernel)]; rw [hr9, if_pos rfl], fun i h8 h9 h7 h6 => by have hij := (nI_eq (by omega) (by omega)).mp h9; subst hij; exact ⟨pb9, bw9, hrow, Or.inr ⟨by decide +kernel, rfl⟩⟩⟩, hm1⟩ hP hS
  · skip
    have hno := zk_i34 (zk_in0 (lo := 0) (hi := 3) c_1)
    refine lv_iconst (v := (-1)) hx hb dX5_bits_12 (by decide +kernel) ?_
    exact hret _ ls _ _ _ (im, pc, P1, P2, P3, C, L, bl, bd, rp) dX5_bits_13 ⟨⟨fun _ => (0, 0), by rw [zA_way, zk_inv hno], fun j hj he => absurd hno (zk_wno hj he)⟩, h5⟩ hP hS
def rmX5_repeats : Room := { frames := 5, cells := 0, slots := 0, locals := 122 }
set_option maxRecDepth 20000 in
theorem ziX5_repeats_5 : ∀ w ∈ wsX50, w ∈ wsX5_repeats := by decide +kernel
set_option maxHeartbeats 4000000 in
set_option maxRecDepth 100000 in
/-- repeats of the reference -/
theorem c_mrepeats (l : Launch) (D : va_G) (cI cZ cR : ClassId) (m_ : Nat) (tw : Nat) (sp : Nat) (dp : Nat) (mb : Nat) (sz : Nat) (ah : Nat) (mi : Nat) (mp : Nat) (m1 : Nat) (m2 : Nat) (m3 : Nat) (mc : Nat) (ml : Nat) (bl : Nat) (bd : Nat) (rp : Nat) (B : Nat → Nat) (im : Nat → Nat) (pc : Nat → Nat) (P1 : Nat → Nat) (P2 : Nat → Nat) (P3 : Nat → Nat) (C : Nat → Nat) (L : Nat → Nat) (w_ : Int32) (h0 : ah ≤ 60) (h1 : sz ≤ 300) (h2 : sp ≤ 300) (h3 : dp ≤ 64) (h4 : ∀ j, B j < 256) (h5 : zr_mrows (zr_v B ah) ah sz sp dp im pc P1 P2 P3) : zk_Wi l yX5_repeats wsX5_repeats rmX5_repeats D (zk_t cI cZ cR) [.ref m_, .int w_] [(m_, .inr (5, [.int (nI tw), .int (nI sp), .int (nI dp), .ref mb, .int (nI sz), .int (nI ah), .ref mi, .ref mp, .ref m1, .ref m2, .ref m3, .ref mc, .ref ml, .int (nI bl), .int (nI bd), .int (nI rp)])), (mb, zk_a cI 360 B), (mi, zk_a cZ 4 im), (mp, zk_a cI 4 pc), (m1, zk_a cI 1200 P1), (m2, zk_a cI 1200 P2), (m3, zk_a cI 1200 P3), (mc, zk_a cI 301 C), (ml, zk_a cI 41 L)] (fun (r : Int32) (u : (Nat → Nat) × (Nat → Nat) × (Nat → Nat) × (Nat → Nat) × (Nat → Nat) × (Nat → Nat) × (Nat → Nat) × Nat × Nat × Nat) => match u with | (im2, pc2, Q1, Q2, Q3, C2, L2, bl2, bd2, rp2) => r = zA_way w_ (fun _ => nI rp2) ∧ (∀ j, j < 4 → w_ = nI j → ∃ pb bw, zr_row j (zr_v B ah) ah sz sp dp (pc2 j) pb bw rp2 (fun k => Q1 (300 * j + k)) (fun k => Q2 (300 * j + k)) (fun k => Q3 (300 * j + k))) ∧ zr_mrows (zr_v B ah) ah sz sp dp im2 pc2 Q1 Q2 Q3) (fun u => match u with | (im2, pc2, Q1, Q2, Q3, C2, L2, bl2, bd2, rp2) => [(m_, .inr (5, [.int (nI 0), .int (nI sp), .int (nI dp), .ref mb, .int (nI sz), .int (nI ah), .ref mi, .ref mp, .ref m1, .ref m2, .ref m3, .ref mc, .ref ml, .int (nI bl2), .int (nI bd2), .int (nI rp2)])), (mb, zk_a cI 360 B), (mi, zk_a cZ 4 im2), (mp, zk_a cI 4 pc2), (m1, zk_a cI 1200 Q1), (m2, zk_a cI 1200 Q2), (m3, zk_a cI 1200 Q3), (mc, zk_a cI 301 C2), (ml, zk_a cI 41 L2)]) := by
  refine zk_enterI RX5 cX5_repeats 3 (by decide) rfl rfl (Nat.le_of_ble_eq_true rfl) ?_
  intro p e s m args below meth c ls A Q hx hb hml hown hts hP hK hD hN hl hA hS hret
  have hl : lv_has ls 3 [(0, .ref m_), (1, .int w_)] := hl
  have f42 := hts (.fieldLink RX5 42 "MatchFindersModel" "thrown" "I") (by decide +kernel)
  have f104 := hts (.fieldLink RX5 104 "MatchFindersModel" "repeats" "I") (by decide +kernel)
  refine lv_aload_n hx hb dX5_repeats_0 rfl (lv_at hl 0 rfl) ?_
  refine lv_iconst (v := (nI 0)) hx hb dX5_repeats_1 (by decide +kernel) ?_
  refine va_put (D := D) (ci := 5) (v := .int (nI 0)) (ty := .int) (C := RX5) (T := TX5) (N := 16) hx hb hts ziX5_repeats_5 tyX5 tyX5_ok nmX5 hown hK hP (zk_D hD rfl) hS 0 rfl rfl 0 (by decide) f42 (fun _ h9 => h9) rfl (by decide +kernel) rfl rfl (Nat.le_of_ble_eq_true rfl) dX5_repeats_2 (fun H locs hP _ hS => ?_)
  have hP : va_P D vwCl [(m_, .inr (5, [.int (nI 0), .int (nI sp), .int (nI dp), .ref mb, .int (nI sz), .int (nI ah), .ref mi, .ref mp, .ref m1, .ref m2, .ref m3, .ref mc, .ref ml, .int (nI bl), .int (nI bd), .int (nI rp)])), (mb, zk_a cI 360 B), (mi, zk_a cZ 4 im), (mp, zk_a cI 4 pc), (m1, zk_a cI 1200 P1), (m2, zk_a cI 1200 P2), (m3, zk_a cI 1200 P3), (mc, zk_a cI 301 C), (ml, zk_a cI 41 L)] H := hP
  refine lv_iload_n hx hb dX5_repeats_5 rfl (lv_at hl 1 rfl) ?_
  refine zk_rdS (As := [.int w_]) (rest := []) ⟨hx, hb, hml, hown, hts⟩ hN (c_misWay l D cI cZ cR w_) (va_cwS 1 hts gX5_repeats_X5_isWay rfl rfl rfl (by decide +kernel) ⟨Nat.le_of_ble_eq_true rfl, Nat.le_of_ble_eq_true rfl⟩) hK hP (zk_D hD rfl) [] rfl (by decide) rfl hl.1 rfl (Nat.le_of_ble_eq_true rfl) dX5_repeats_6 ⟨Nat.zero_le _, Nat.zero_le _⟩ ?_
  refine lv_if_ne (tgt := 14) hx hb dX5_repeats_9 (by decide) (fun c_1 => ?_) (fun c_1 => ?_)
  · skip
    obtain ⟨j, hj1, hj, hje⟩ := zk_in2 (lo := 0) (hi := 3) (by decide) (by decide) c_1
    subst hje
    refine lv_aload_n hx hb dX5_repeats_14 rfl (lv_at hl 0 rfl) ?_
    refine lv_iload_n hx hb dX5_repeats_15 rfl (lv_at hl 1 rfl) ?_
    refine lv_iconst (v := (nI 1)) hx hb dX5_repeats_16 (by decide +kernel) ?_
    refine zk_wrI (As := [.int (nI j), .int (nI 1)]) (rest := []) ⟨hx, hb, hml, hown, hts⟩ hN (c_bitsOf l D cI cZ cR m_ 0 sp dp mb sz ah mi mp m1 m2 m3 mc ml bl bd rp B im pc P1 P2 P3 C L j 1 (by omega) (by omega) (by omega) (by omega) h4 h5 (by omega) (by omega)) (cwV 2 hts gX5_repeats_X5_bitsOf rfl rfl rfl (by decide +kernel) ⟨Nat.le_of_ble_eq_true rfl, Nat.le_of_ble_eq_true rfl⟩) hK hP (zk_D hD rfl) hS hA [0, 1, 2, 3, 4, 5, 6, 7, 8] rfl (by decide) (fun _ => rfl) rfl rfl rfl rfl hl.1 rfl (Nat.le_of_ble_eq_true rfl) dX5_repeats_17 ⟨Nat.zero_le _, Nat.zero_le _⟩ (fun r u H locs hu hP hS => ?_)
    obtain ⟨im9, pc9, R1, R2, R3, C9, L9, bl9, bd9, rp9⟩ := u
    have hu : zr_mrows (zr_v B ah) ah sz sp dp im9 pc9 R1 R2 R3 ∧ im9 j = 1 ∧ ∃ pb bw, zr_row j (zr_v B ah) ah sz sp dp (pc9 j) pb bw rp9 (fun k => R1 (300 * j + k)) (fun k => R2 (300 * j + k)) (fun k => R3 (300 * j + k)) ∧ r = nI (if 1 = 1 then bw else pb) := hu
    have hP : va_P D vwCl [(m_, .inr (5, [.int (nI 0), .int (nI sp), .int (nI dp), .ref mb, .int (nI sz), .int (nI ah), .ref mi, .ref mp, .ref m1, .ref m2, .ref m3, .ref mc, .ref ml, .int (nI bl9), .int (nI bd9), .int (nI rp9)])), (mb, zk_a cI 360 B), (mi, zk_a cZ 4 im9), (mp, zk_a cI 4 pc9), (m1, zk_a cI 1200 R1), (m2, zk_a cI 1200 R2), (m3, zk_a cI 1200 R3), (mc, zk_a cI 301 C9), (ml, zk_a cI 41 L9)] H := hP
    obtain ⟨hm1, hm2, pb9, bw9, hrow, hr9⟩ := hu
    refine lv_istore_n (lv' := [(2, .int r), (0, .ref m_), (1, .int (nI j))]) hx hb dX5_repeats_20 rfl hl (by decide) rfl (fun ls hl => ?_)
    refine lv_aload_n hx hb dX5_repeats_21 rfl (lv_at hl 1 rfl) ?_
    refine va_get (D := D) (ci := 5) (v := .int (nI rp9)) (C := RX5) (T := TX5) (N := 16) hx hb hts ziX5_repeats_5 hown hK hP 0 rfl rfl 15 (by decide) f104 (fun _ h9 => h9) rfl dX5_repeats_22 ?_
    exact hret _ ls _ _ _ (im9, pc9, R1, R2, R3, C9, L9, bl9, bd9, rp9) dX5_repeats_25 ⟨by rw [zA_way, zk_val (show j < 4 by omega) (by decide)], fun i h8 h9 => by have hij := (nI_eq (by omega) (by omega)).mp h9; subst hij; exact ⟨pb9, bw9, hrow⟩, hm1⟩ hP hS
  · skip
    have hno := zk_i34 (zk_in0 (lo := 0) (hi := 3) c_1)
    refine lv_iconst (v := (-1)) hx hb dX5_repeats_12 (by decide +kernel) ?_
    exact hret _ ls _ _ _ (im, pc, P1, P2, P3, C, L, bl, bd, rp) dX5_repeats_13 ⟨by rw [zA_way, zk_inv hno], fun j hj he => absurd hno (zk_wno hj he), h5⟩ hP hS
def rmX5_share : Room := { frames := 5, cells := 0, slots := 0, locals := 122 }
set_option maxRecDepth 20000 in
theorem ziX5_share_5 : ∀ w ∈ wsX50, w ∈ wsX5_share := by decide +kernel
set_option maxHeartbeats 4000000 in
set_option maxRecDepth 100000 in
/-- share of the reference -/
theorem c_mshare (l : Launch) (D : va_G) (cI cZ cR : ClassId) (m_ : Nat) (tw : Nat) (sp : Nat) (dp : Nat) (mb : Nat) (sz : Nat) (ah : Nat) (mi : Nat) (mp : Nat) (m1 : Nat) (m2 : Nat) (m3 : Nat) (mc : Nat) (ml : Nat) (bl : Nat) (bd : Nat) (rp : Nat) (B : Nat → Nat) (im : Nat → Nat) (pc : Nat → Nat) (P1 : Nat → Nat) (P2 : Nat → Nat) (P3 : Nat → Nat) (C : Nat → Nat) (L : Nat → Nat) (w_ : Int32) (h0 : ah ≤ 60) (h1 : sz ≤ 300) (h2 : sp ≤ 300) (h3 : dp ≤ 64) (h4 : ∀ j, B j < 256) (h5 : zr_mrows (zr_v B ah) ah sz sp dp im pc P1 P2 P3) : zk_Wi l yX5_share wsX5_share rmX5_share D (zk_t cI cZ cR) [.ref m_, .int w_] [(m_, .inr (5, [.int (nI tw), .int (nI sp), .int (nI dp), .ref mb, .int (nI sz), .int (nI ah), .ref mi, .ref mp, .ref m1, .ref m2, .ref m3, .ref mc, .ref ml, .int (nI bl), .int (nI bd), .int (nI rp)])), (mb, zk_a cI 360 B), (mi, zk_a cZ 4 im), (mp, zk_a cI 4 pc), (m1, zk_a cI 1200 P1), (m2, zk_a cI 1200 P2), (m3, zk_a cI 1200 P3), (mc, zk_a cI 301 C), (ml, zk_a cI 41 L)] (fun (r : Int32) (u : (Nat → Nat) × (Nat → Nat) × (Nat → Nat) × (Nat → Nat) × (Nat → Nat) × (Nat → Nat) × (Nat → Nat) × Nat × Nat × Nat × Nat) => match u with | (im2, pc2, Q1, Q2, Q3, C2, L2, bl2, bd2, rp2, tw2) => (w_ < 0 ∨ nI 4 ≤ w_ → r = -1 ∧ tw2 = 0) ∧ (∀ j, j < 4 → w_ = nI j → (sz = 0 → tw2 = 1) ∧ (0 < sz → tw2 = 0 ∧ ∃ pb bw, zr_row j (zr_v B ah) ah sz sp dp (pc2 j) pb bw rp2 (fun k => Q1 (300 * j + k)) (fun k => Q2 (300 * j + k)) (fun k => Q3 (300 * j + k)) ∧ r = nI (1000 * bw / (8 * sz)))) ∧ zr_mrows (zr_v B ah) ah sz sp dp im2 pc2 Q1 Q2 Q3) (fun u => match u with | (im2, pc2, Q1, Q2, Q3, C2, L2, bl2, bd2, rp2, tw2) => [(m_, .inr (5, [.int (nI tw2), .int (nI sp), .int (nI dp), .ref mb, .int (nI sz), .int (nI ah), .ref mi, .ref mp, .ref m1, .ref m2, .ref m3, .ref mc, .ref ml, .int (nI bl2), .int (nI bd2), .int (nI rp2)])), (mb, zk_a cI 360 B), (mi, zk_a cZ 4 im2), (mp, zk_a cI 4 pc2), (m1, zk_a cI 1200 Q1), (m2, zk_a cI 1200 Q2), (m3, zk_a cI 1200 Q3), (mc, zk_a cI 301 C2), (ml, zk_a cI 41 L2)]) := by
  refine zk_enterI RX5 cX5_share 2 (by decide) rfl rfl (Nat.le_of_ble_eq_true rfl) ?_
  intro p e s m args below meth c ls A Q hx hb hml hown hts hP hK hD hN hl hA hS hret
  have hl : lv_has ls 2 [(0, .ref m_), (1, .int w_)] := hl
  have f42 := hts (.fieldLink RX5 42 "MatchFindersModel" "thrown" "I") (by decide +kernel)
  have f45 := hts (.fieldLink RX5 45 "MatchFindersModel" "size" "I") (by decide +kernel)
  refine lv_aload_n hx hb dX5_share_0 rfl (lv_at hl 0 rfl) ?_
  refine lv_iconst (v := (nI 0)) hx hb dX5_share_1 (by decide +kernel) ?_
  refine va_put (D := D) (ci := 5) (v := .int (nI 0)) (ty := .int) (C := RX5) (T := TX5) (N := 16) hx hb hts ziX5_share_5 tyX5 tyX5_ok nmX5 hown hK hP (zk_D hD rfl) hS 0 rfl rfl 0 (by decide) f42 (fun _ h9 => h9) rfl (by decide +kernel) rfl rfl (Nat.le_of_ble_eq_true rfl) dX5_share_2 (fun H locs hP _ hS => ?_)
  have hP : va_P D vwCl [(m_, .inr (5, [.int (nI 0), .int (nI sp), .int (nI dp), .ref mb, .int (nI sz), .int (nI ah), .ref mi, .ref mp, .ref m1, .ref m2, .ref m3, .ref mc, .ref ml, .int (nI bl), .int (nI bd), .int (nI rp)])), (mb, zk_a cI 360 B), (mi, zk_a cZ 4 im), (mp, zk_a cI 4 pc), (m1, zk_a cI 1200 P1), (m2, zk_a cI 1200 P2), (m3, zk_a cI 1200 P3), (mc, zk_a cI 301 C), (ml, zk_a cI 41 L)] H := hP
  refine lv_iload_n hx hb dX5_share_5 rfl (lv_at hl 1 rfl) ?_
  refine zk_rdS (As := [.int w_]) (rest := []) ⟨hx, hb, hml, hown, hts⟩ hN (c_misWay l D cI cZ cR w_) (va_cwS 1 hts gX5_share_X5_isWay rfl rfl rfl (by decide +kernel) ⟨Nat.le_of_ble_eq_true rfl, Nat.le_of_ble_eq_true rfl⟩) hK hP (zk_D hD rfl) [] rfl (by decide) rfl hl.1 rfl (Nat.le_of_ble_eq_true rfl) dX5_share_6 ⟨Nat.zero_le _, Nat.zero_le _⟩ ?_
  refine lv_if_ne (tgt := 14) hx hb dX5_share_9 (by decide) (fun c_1 => ?_) (fun c_1 => ?_)
  · skip
    obtain ⟨j, hj1, hj, hje⟩ := zk_in2 (lo := 0) (hi := 3) (by decide) (by decide) c_1
    subst hje
    refine lv_aload_n hx hb dX5_share_14 rfl (lv_at hl 0 rfl) ?_
    refine va_get (D := D) (ci := 5) (v := .int (nI sz)) (C := RX5) (T := TX5) (N := 16) hx hb hts ziX5_share_5 hown hK hP 0 rfl rfl 4 (by decide) f45 (fun _ h9 => h9) rfl dX5_share_15 ?_
    refine zk_if_ne (tgt := 28) hx hb (by omega) dX5_share_18 (by decide) (fun c_2 => ?_) (fun c_2 => ?_)
    · skip
      refine lv_sipush (v := (nI 1000)) hx hb dX5_share_28 (by decide +kernel) ?_
      refine lv_aload_n hx hb dX5_share_31 rfl (lv_at hl 0 rfl) ?_
      refine lv_iload_n hx hb dX5_share_32 rfl (lv_at hl 1 rfl) ?_
      refine lv_iconst (v := (nI 1)) hx hb dX5_share_33 (by decide +kernel) ?_
      refine zk_wrI (As := [.int (nI j), .int (nI 1)]) (rest := [.int (nI 1000)]) ⟨hx, hb, hml, hown, hts⟩ hN (c_bitsOf l D cI cZ cR m_ 0 sp dp mb sz ah mi mp m1 m2 m3 mc ml bl bd rp B im pc P1 P2 P3 C L j 1 (by omega) (by omega) (by omega) (by omega) h4 h5 (by omega) (by omega)) (cwV 2 hts gX5_share_X5_bitsOf rfl rfl rfl (by decide +kernel) ⟨Nat.le_of_ble_eq_true rfl, Nat.le_of_ble_eq_true rfl⟩) hK hP (zk_D hD rfl) hS hA [0, 1, 2, 3, 4, 5, 6, 7, 8] rfl (by decide) (fun _ => rfl) rfl rfl rfl rfl hl.1 rfl (Nat.le_of_ble_eq_true rfl) dX5_share_34 ⟨Nat.zero_le _, Nat.zero_le _⟩ (fun r u H locs hu hP hS => ?_)
      obtain ⟨im9, pc9, R1, R2, R3, C9, L9, bl9, bd9, rp9⟩ := u
      have hu : zr_mrows (zr_v B ah) ah sz sp dp im9 pc9 R1 R2 R3 ∧ im9 j = 1 ∧ ∃ pb bw, zr_row j (zr_v B ah) ah sz sp dp (pc9 j) pb bw rp9 (fun k => R1 (300 * j + k)) (fun k => R2 (300 * j + k)) (fun k => R3 (300 * j + k)) ∧ r = nI (if 1 = 1 then bw else pb) := hu
      have hP : va_P D vwCl [(m_, .inr (5, [.int (nI 0), .int (nI sp), .int (nI dp), .ref mb, .int (nI sz), .int (nI ah), .ref mi, .ref mp, .ref m1, .ref m2, .ref m3, .ref mc, .ref ml, .int (nI bl9), .int (nI bd9), .int (nI rp9)])), (mb, zk_a cI 360 B), (mi, zk_a cZ 4 im9), (mp, zk_a cI 4 pc9), (m1, zk_a cI 1200 R1), (m2, zk_a cI 1200 R2), (m3, zk_a cI 1200 R3), (mc, zk_a cI 301 C9), (ml, zk_a cI 41 L9)] H := hP
      obtain ⟨hm1, hm2, pb9, bw9, hrow, hr9⟩ := hu
      have hbw := zr_row_bw (by omega) hrow h1 h2
      refine zk_top (v := nI bw9) (by rw [hr9, if_pos rfl]) ?_
      refine zk_mul (v := 1000 * bw9) hx hb rfl dX5_share_37 ?_
      refine lv_bipush (v := (nI 8)) hx hb dX5_share_38 (by decide +kernel) ?_
      refine lv_aload_n hx hb dX5_share_40 rfl (lv_at hl 0 rfl) ?_
      refine va_get (D := D) (ci := 5) (v := .int (nI sz)) (C := RX5) (T := TX5) (N := 16) hx hb hts ziX5_share_5 hown hK hP 0 rfl rfl 4 (by decide) f45 (fun _ h9 => h9) rfl dX5_share_41 ?_
      refine zk_mul (v := 8 * sz) hx hb rfl dX5_share_44 ?_
      refine zk_div (v := (1000 * bw9) / (8 * sz)) hx hb (by omega) (by omega) (by omega) rfl dX5_share_45 ?_
      exact hret _ ls _ _ _ (im9, pc9, R1, R2, R3, C9, L9, bl9, bd9, rp9, 0) dX5_share_46 ⟨fun h => absurd h (zk_wno (show j < 4 by omega) rfl), fun i h8 h9 => ⟨fun h => absurd h (by omega), fun _ => ⟨rfl, by have hij := (nI_eq (by omega) (by omega)).mp h9; subst hij; exact ⟨pb9, bw9, hrow, rfl⟩⟩⟩, hm1⟩ hP hS
    · skip
      refine lv_aload_n hx hb dX5_share_21 rfl (lv_at hl 0 rfl) ?_
      refine lv_iconst (v := (nI 1)) hx hb dX5_share_22 (by decide +kernel) ?_
      refine va_put (D := D) (ci := 5) (v := .int (nI 1)) (ty := .int) (C := RX5) (T := TX5) (N := 16) hx hb hts ziX5_share_5 tyX5 tyX5_ok nmX5 hown hK hP (zk_D hD rfl) hS 0 rfl rfl 0 (by decide) f42 (fun _ h9 => h9) rfl (by decide +kernel) rfl rfl (Nat.le_of_ble_eq_true rfl) dX5_share_23 (fun H locs hP _ hS => ?_)
      have hP : va_P D vwCl [(m_, .inr (5, [.int (nI 1), .int (nI sp), .int (nI dp), .ref mb, .int (nI sz), .int (nI ah), .ref mi, .ref mp, .ref m1, .ref m2, .ref m3, .ref mc, .ref ml, .int (nI bl), .int (nI bd), .int (nI rp)])), (mb, zk_a cI 360 B), (mi, zk_a cZ 4 im), (mp, zk_a cI 4 pc), (m1, zk_a cI 1200 P1), (m2, zk_a cI 1200 P2), (m3, zk_a cI 1200 P3), (mc, zk_a cI 301 C), (ml, zk_a cI 41 L)] H := hP
      refine lv_iconst (v := (nI 0)) hx hb dX5_share_26 (by decide +kernel) ?_
      exact hret _ ls _ _ _ (im, pc, P1, P2, P3, C, L, bl, bd, rp, 1) dX5_share_27 ⟨fun h => absurd h (zk_wno (show j < 4 by omega) rfl), fun i h8 h9 => ⟨fun _ => rfl, fun h => absurd h (by omega)⟩, h5⟩ hP hS
  · skip
    have hno := zk_i34 (zk_in0 (lo := 0) (hi := 3) c_1)
    refine lv_iconst (v := (-1)) hx hb dX5_share_12 (by decide +kernel) ?_
    exact hret _ ls _ _ _ (im, pc, P1, P2, P3, C, L, bl, bd, rp, 0) dX5_share_13 ⟨fun _ => ⟨rfl, rfl⟩, fun j hj he => absurd hno (zk_wno hj he), h5⟩ hP hS
def rmX5_front : Room := { frames := 1, cells := 0, slots := 0, locals := 23 }
set_option maxRecDepth 20000 in
theorem ziX5_front_5 : ∀ w ∈ wsX50, w ∈ wsX5_front := by decide +kernel
set_option maxHeartbeats 4000000 in
set_option maxRecDepth 100000 in
/-- front of the reference -/
theorem c_mfront (l : Launch) (D : va_G) (cI cZ cR : ClassId) (m_ : Nat) (tw : Nat) (sp : Nat) (dp : Nat) (mb : Nat) (sz : Nat) (ah : Nat) (mi : Nat) (mp : Nat) (m1 : Nat) (m2 : Nat) (m3 : Nat) (mc : Nat) (ml : Nat) (bl : Nat) (bd : Nat) (rp : Nat) (B : Nat → Nat) (p_ : Int32) (k9 : Int32) (w_ : Int32) (h0 : ah ≤ 60) (h1 : sz ≤ 300) (h2 : sp ≤ 300) (h3 : ∀ j, B j < 256) : zk_Wi l yX5_front wsX5_front rmX5_front D (zk_t cI cZ cR) [.ref m_, .int p_, .int k9, .int w_] [(m_, .inr (5, [.int (nI tw), .int (nI sp), .int (nI dp), .ref mb, .int (nI sz), .int (nI ah), .ref mi, .ref mp, .ref m1, .ref m2, .ref m3, .ref mc, .ref ml, .int (nI bl), .int (nI bd), .int (nI rp)])), (mb, zk_a cI 360 B)] (fun (r : Int32) (_ : Unit) => r = (zA_front p_ k9 w_ sz (zr_Fp (zr_v B ah) ah sz sp))) (fun _ => [(m_, .inr (5, [.int (nI 0), .int (nI sp), .int (nI dp), .ref mb, .int (nI sz), .int (nI ah), .ref mi, .ref mp, .ref m1, .ref m2, .ref m3, .ref mc, .ref ml, .int (nI bl), .int (nI bd), .int (nI rp)])), (mb, zk_a cI 360 B)]) := by
  refine zk_enterI RX5 cX5_front 9 (by decide) rfl rfl (Nat.le_of_ble_eq_true rfl) ?_
  intro p e s m args below meth c ls A Q hx hb hml hown hts hP hK hD hN hl hA hS hret
  have hl : lv_has ls 9 [(0, .ref m_), (1, .int p_), (2, .int k9), (3, .int w_)] := hl
  have f35 := hts (.fieldLink RX5 35 "MatchFindersModel" "span" "I") (by decide +kernel)
  have f42 := hts (.fieldLink RX5 42 "MatchFindersModel" "thrown" "I") (by decide +kernel)
  have f45 := hts (.fieldLink RX5 45 "MatchFindersModel" "size" "I") (by decide +kernel)
  refine lv_aload_n hx hb dX5_front_0 rfl (lv_at hl 0 rfl) ?_
  refine lv_iconst (v := (nI 0)) hx hb dX5_front_1 (by decide +kernel) ?_
  refine va_put (D := D) (ci := 5) (v := .int (nI 0)) (ty := .int) (C := RX5) (T := TX5) (N := 16) hx hb hts ziX5_front_5 tyX5 tyX5_ok nmX5 hown hK hP (zk_D hD rfl) hS 0 rfl rfl 0 (by decide) f42 (fun _ h9 => h9) rfl (by decide +kernel) rfl rfl (Nat.le_of_ble_eq_true rfl) dX5_front_2 (fun H locs hP _ hS => ?_)
  have hP : va_P D vwCl [(m_, .inr (5, [.int (nI 0), .int (nI sp), .int (nI dp), .ref mb, .int (nI sz), .int (nI ah), .ref mi, .ref mp, .ref m1, .ref m2, .ref m3, .ref mc, .ref ml, .int (nI bl), .int (nI bd), .int (nI rp)])), (mb, zk_a cI 360 B)] H := hP
  refine lv_iload_n hx hb dX5_front_5 rfl (lv_at hl 1 rfl) ?_
  refine lv_iconst (v := (nI 0)) hx hb dX5_front_6 (by decide +kernel) ?_
  refine lv_aload_n hx hb dX5_front_7 rfl (lv_at hl 0 rfl) ?_
  refine va_get (D := D) (ci := 5) (v := .int (nI sz)) (C := RX5) (T := TX5) (N := 16) hx hb hts ziX5_front_5 hown hK hP 0 rfl rfl 4 (by decide) f45 (fun _ h9 => h9) rfl dX5_front_8 ?_
  refine lv_iconst (v := (nI 1)) hx hb dX5_front_11 (by decide +kernel) ?_
  refine lv_isub hx hb dX5_front_12 ?_
  refine zk_rdS (As := [.int p_, .int (nI 0), .int ((nI sz) - (nI 1))]) (rest := []) ⟨hx, hb, hml, hown, hts⟩ hN (c_in l D cI cZ cR p_ (nI 0) ((nI sz) - (nI 1))) (va_cwS 3 hts gX5_front_X5_in rfl rfl rfl (by decide +kernel) ⟨Nat.le_of_ble_eq_true rfl, Nat.le_of_ble_eq_true rfl⟩) hK hP (zk_D hD rfl) [] rfl (by decide) rfl hl.1 rfl (Nat.le_of_ble_eq_true rfl) dX5_front_13 ⟨Nat.zero_le _, Nat.zero_le _⟩ ?_
  refine lv_if_eq (tgt := 24) hx hb dX5_front_16 (by decide) (fun c_1 => ?_) (fun c_1 => ?_)
  · skip
    have hno := zk_inq h1 c_1
    refine lv_iconst (v := (-1)) hx hb dX5_front_24 (by decide +kernel) ?_
    exact hret _ ls _ _ _ () dX5_front_25 (by rw [zA_front, zk_inv hno]) hP hS
  · skip
    obtain ⟨pp, hpp, hpe⟩ := zk_inp h1 c_1
    subst hpe
    refine lv_iload_n hx hb dX5_front_19 rfl (lv_at hl 2 rfl) ?_
    refine lv_iconst (v := (-1)) hx hb dX5_front_20 (by decide +kernel) ?_
    refine lv_icmp_ge (tgt := 26) hx hb dX5_front_21 (by decide) (fun c_2 => ?_) (fun c_2 => ?_)
    · skip
      have hk1 := zk_m3 c_2
      refine lv_iconst (v := (nI 0)) hx hb dX5_front_26 (by decide +kernel) ?_
      refine lv_istore (lv' := [(4, .int (nI 0)), (0, .ref m_), (1, .int (nI pp)), (2, .int k9), (3, .int w_)]) hx hb dX5_front_27 hl (by decide) rfl (fun ls hl => ?_)
      refine lv_iconst (v := (nI 0)) hx hb dX5_front_29 (by decide +kernel) ?_
      refine lv_istore (lv' := [(5, .int (nI 0)), (4, .int (nI 0)), (0, .ref m_), (1, .int (nI pp)), (2, .int k9), (3, .int w_)]) hx hb dX5_front_30 hl (by decide) rfl (fun ls hl => ?_)
      refine lv_iconst (v := (-1)) hx hb dX5_front_32 (by decide +kernel) ?_
      refine lv_istore (lv' := [(6, .int (-1)), (5, .int (nI 0)), (4, .int (nI 0)), (0, .ref m_), (1, .int (nI pp)), (2, .int k9), (3, .int w_)]) hx hb dX5_front_33 hl (by decide) rfl (fun ls hl => ?_)
      refine lv_iconst (v := (nI 1)) hx hb dX5_front_35 (by decide +kernel) ?_
      refine lv_istore (lv' := [(7, .int (nI 1)), (6, .int (-1)), (5, .int (nI 0)), (4, .int (nI 0)), (0, .ref m_), (1, .int (nI pp)), (2, .int k9), (3, .int w_)]) hx hb dX5_front_36 hl (by decide) rfl (fun ls hl => ?_)
      have L38 : ∀ (n : Nat) (n1 : Nat) (mx : Nat) (an : Int32) (d : Nat) (be : Nat) (P : List (Nat × Nat)) (ls : Array Slot) (H : Heap) (locs : List Loc), (1 ≤ d) → (d ≤ sp + 1) → ((mx = 0 ∧ be = 2) ∨ (3 ≤ mx ∧ be = mx)) → (P.length = n1) → (P ++ zr_fr (zr_lg (zr_v B ah) ah sz pp) (min 40 (sz - pp)) (sp + 1 - d) d be = zr_Fp (zr_v B ah) ah sz sp pp) → (zr_an k9 w_ an P) → (n1 ≤ d) → (mx ≤ 40) → (sp + 1 - d) < n → va_P D vwCl [(m_, .inr (5, [.int (nI 0), .int (nI sp), .int (nI dp), .ref mb, .int (nI sz), .int (nI ah), .ref mi, .ref mp, .ref m1, .ref m2, .ref m3, .ref mc, .ref ml, .int (nI bl), .int (nI bd), .int (nI rp)])), (mb, zk_a cI 360 B)] H → va_S A s.heap H locs → lv_has ls 9 [(0, .ref m_), (1, .int (nI pp)), (2, .int k9), (3, .int w_), (4, .int (nI n1)), (5, .int (nI mx)), (6, .int an), (7, .int (nI d))] → W p l e rmX5_front s m args below meth c H locs 0 0 Q (F0 m 38 ls []) := by
        intro n
        induction n with
        | zero => intro n1 mx an d be P ls H locs g38_0 g38_1 g38_2 g38_3 g38_4 g38_5 g38_6 g38_7 hm hP hS hl; exact absurd hm (by omega)
        | succ n ih38 =>
          intro n1 mx an d be P ls H locs g38_0 g38_1 g38_2 g38_3 g38_4 g38_5 g38_6 g38_7 hm hP hS hl
          refine lv_iload hx hb dX5_front_38 (lv_at hl 7 rfl) ?_
          refine lv_aload_n hx hb dX5_front_40 rfl (lv_at hl 0 rfl) ?_
          refine va_get (D := D) (ci := 5) (v := .int (nI sp)) (C := RX5) (T := TX5) (N := 16) hx hb hts ziX5_front_5 hown hK hP 0 rfl rfl 1 (by decide) f35 (fun _ h9 => h9) rfl dX5_front_41 ?_
          refine zk_icmp_gt (tgt := 100) hx hb (by omega) (by omega) dX5_front_44 (by decide) (fun c_3 => ?_) (fun c_3 => ?_)
          · skip
            have hF : zr_Fp (zr_v B ah) ah sz sp pp = P := by rw [← g38_4, zr_fr_0 (n := sp + 1 - d) (by omega), List.append_nil]
            refine lv_iload_n hx hb dX5_front_100 rfl (lv_at hl 2 rfl) ?_
            refine lv_iload hx hb dX5_front_101 (lv_at hl 4 rfl) ?_
            refine lv_icmp_lt (tgt := 108) hx hb dX5_front_103 (by decide) (fun c_4 => ?_) (fun c_4 => ?_)
            · skip
              refine lv_iload_n hx hb dX5_front_108 rfl (lv_at hl 3 rfl) ?_
              refine lv_iconst (v := (nI 0)) hx hb dX5_front_109 (by decide +kernel) ?_
              refine lv_iconst (v := (nI 1)) hx hb dX5_front_110 (by decide +kernel) ?_
              refine zk_rdS (As := [.int w_, .int (nI 0), .int (nI 1)]) (rest := []) ⟨hx, hb, hml, hown, hts⟩ hN (c_in l D cI cZ cR w_ (nI 0) (nI 1)) (va_cwS 3 hts gX5_front_X5_in rfl rfl rfl (by decide +kernel) ⟨Nat.le_of_ble_eq_true rfl, Nat.le_of_ble_eq_true rfl⟩) hK hP (zk_D hD rfl) [] rfl (by decide) rfl hl.1 rfl (Nat.le_of_ble_eq_true rfl) dX5_front_111 ⟨Nat.zero_le _, Nat.zero_le _⟩ ?_
              refine lv_if_ne (tgt := 122) hx hb dX5_front_114 (by decide) (fun c_5 => ?_) (fun c_5 => ?_)
              · skip
                obtain ⟨v, hv1, hv, hve⟩ := zk_in2 (lo := 0) (hi := 1) (by decide) (by decide) c_5
                subst hve
                refine lv_iload_n hx hb dX5_front_122 rfl (lv_at hl 2 rfl) ?_
                refine lv_if_ge (tgt := 131) hx hb dX5_front_123 (by decide) (fun c_6 => ?_) (fun c_6 => ?_)
                · skip
                  have hk0n : ¬ k9 < 0 := by rw [Int32.lt_iff_toInt_lt]; rw [Int32.le_iff_toInt_le] at c_6; omega
                  refine lv_iload hx hb dX5_front_131 (lv_at hl 6 rfl) ?_
                  exact hret _ ls _ _ _ () dX5_front_133 (by rw [zA_front, zk_val hpp (by omega), nI_clamp (show pp < 2 ^ 31 by omega), hF, g38_3, if_neg hk1, if_neg (zk_ln c_4), zk_win hv (by decide), if_neg (zk_m2 hk0n)]; exact zr_an_use g38_5 hk0n (by rw [g38_3]; exact c_4) (by omega)) hP hS
                · skip
                  have hkn : k9 < 0 := by rw [Int32.lt_iff_toInt_lt]; rw [Int32.le_iff_toInt_le] at c_6; omega
                  refine lv_iload hx hb dX5_front_126 (lv_at hl 4 rfl) ?_
                  refine lv_goto (tgt := 133) hx hb dX5_front_128 (by decide) ?_
                  exact hret _ ls _ _ _ () dX5_front_133 (by rw [zA_front, zk_val hpp (by omega), nI_clamp (show pp < 2 ^ 31 by omega), hF, g38_3, if_neg hk1, if_neg (zk_ln c_4), zk_win hv (by decide), if_pos (zk_m1 hk1 hkn)]) hP hS
              · skip
                have hwn := zk_in0 (lo := 0) (hi := 1) c_5
                refine lv_bipush (v := (-2)) hx hb dX5_front_117 (by decide +kernel) ?_
                refine lv_goto (tgt := 133) hx hb dX5_front_119 (by decide) ?_
                exact hret _ ls _ _ _ () dX5_front_133 (by rw [zA_front, zk_val hpp (by omega), nI_clamp (show pp < 2 ^ 31 by omega), hF, g38_3, if_neg hk1, if_neg (zk_ln c_4), zk_wout2 hwn]) hP hS
            · skip
              refine lv_iconst (v := (-1)) hx hb dX5_front_106 (by decide +kernel) ?_
              exact hret _ ls _ _ _ () dX5_front_107 (by rw [zA_front, zk_val hpp (by omega), nI_clamp (show pp < 2 ^ 31 by omega), hF, g38_3, if_neg hk1, if_pos (zk_nl c_4)]) hP hS
          · skip
            refine lv_aload_n hx hb dX5_front_47 rfl (lv_at hl 0 rfl) ?_
            refine lv_iload_n hx hb dX5_front_48 rfl (lv_at hl 1 rfl) ?_
            refine lv_iload hx hb dX5_front_49 (lv_at hl 7 rfl) ?_
            refine zk_rdV (As := [.int (nI pp), .int (nI d)]) (rest := []) ⟨hx, hb, hml, hown, hts⟩ hN (c_longAt l D cI cZ cR m_ 0 sp dp mb sz ah mi mp m1 m2 m3 mc ml bl bd rp B pp d (by omega) (by omega) (by omega) (by omega) (by omega) h3) (cwV 2 hts gX5_front_X5_longAt rfl rfl rfl (by decide +kernel) ⟨Nat.le_of_ble_eq_true rfl, Nat.le_of_ble_eq_true rfl⟩) hK hP (zk_D hD rfl) [0, 1] rfl (by decide) rfl rfl rfl rfl hl.1 rfl (Nat.le_of_ble_eq_true rfl) dX5_front_51 ⟨Nat.zero_le _, Nat.zero_le _⟩ ?_
            refine zk_nm (fun rr h_rr => ?_)
            have hrl := zr_lg_le (zr_v B ah) ah sz pp d
            have hr3 := zr_lg_3 (zr_v B ah) ah sz pp d
            refine lv_istore (lv' := [(8, .int (nI rr)), (0, .ref m_), (1, .int (nI pp)), (2, .int k9), (3, .int w_), (4, .int (nI n1)), (5, .int (nI mx)), (6, .int an), (7, .int (nI d))]) hx hb dX5_front_54 hl (by decide) rfl (fun ls hl => ?_)
            refine lv_iload hx hb dX5_front_56 (lv_at hl 0 rfl) ?_
            refine lv_iload hx hb dX5_front_58 (lv_at hl 6 rfl) ?_
            refine zk_icmp_le (tgt := 94) hx hb (by omega) (by omega) dX5_front_60 (by decide) (fun c_7 => ?_) (fun c_7 => ?_)
            · skip
              refine lv_iinc (v := (nI (d + 1))) (lv' := [(7, .int (nI (d + 1))), (8, .int (nI rr)), (0, .ref m_), (1, .int (nI pp)), (2, .int k9), (3, .int w_), (4, .int (nI n1)), (5, .int (nI mx)), (6, .int an)]) hx hb dX5_front_94 hl (k := 8) rfl (by rw [show Int32.ofInt 1 = (1 : Int32) from rfl, nI_1]) (by decide) rfl (fun ls hl => ?_)
              refine lv_goto (tgt := 38) hx hb dX5_front_97 (by decide) ?_
              exact ih38 n1 mx an (d + 1) be P ls _ _ (by omega) (by omega) (by omega) g38_3 (by rw [← g38_4, zr_fr_sk (Rr := (zr_lg (zr_v B ah) ah sz pp)) (d := d) (n := sp + 1 - d) (k := sp + 1 - (d + 1)) (r := rr) h_rr (by omega) (by omega)]) g38_5 (by omega) (by omega) (by omega) hP hS (lv_sub hl [2, 3, 4, 5, 6, 7, 8, 0] rfl)
            · skip
              refine lv_iload hx hb dX5_front_63 (lv_at hl 0 rfl) ?_
              refine lv_istore (lv' := [(5, .int (nI rr)), (8, .int (nI rr)), (0, .ref m_), (1, .int (nI pp)), (2, .int k9), (3, .int w_), (4, .int (nI n1)), (6, .int an), (7, .int (nI d))]) hx hb dX5_front_65 hl (by decide) rfl (fun ls hl => ?_)
              refine lv_iload hx hb dX5_front_67 (lv_at hl 6 rfl) ?_
              refine lv_iload_n hx hb dX5_front_69 rfl (lv_at hl 4 rfl) ?_
              refine lv_icmp_ne (tgt := 87) hx hb dX5_front_70 (by decide) (fun c_8 => ?_) (fun c_8 => ?_)
              · skip
                refine lv_iload hx hb dX5_front_87 (lv_at hl 7 rfl) ?_
                refine lv_istore (lv' := [(6, .int an), (5, .int (nI rr)), (8, .int (nI rr)), (0, .ref m_), (1, .int (nI pp)), (2, .int k9), (3, .int w_), (4, .int (nI n1)), (7, .int (nI d))]) hx hb dX5_front_89 hl (by decide) rfl (fun ls hl => ?_)
                refine lv_iinc (v := (nI (n1 + 1))) (lv' := [(4, .int (nI (n1 + 1))), (6, .int an), (5, .int (nI rr)), (8, .int (nI rr)), (0, .ref m_), (1, .int (nI pp)), (2, .int k9), (3, .int w_), (7, .int (nI d))]) hx hb dX5_front_91 hl (k := 7) rfl (by rw [show Int32.ofInt 1 = (1 : Int32) from rfl, nI_1]) (by decide) rfl (fun ls hl => ?_)
                refine lv_iinc (v := (nI (d + 1))) (lv' := [(7, .int (nI (d + 1))), (4, .int (nI (n1 + 1))), (6, .int an), (5, .int (nI rr)), (8, .int (nI rr)), (0, .ref m_), (1, .int (nI pp)), (2, .int k9), (3, .int w_)]) hx hb dX5_front_94 hl (k := 8) rfl (by rw [show Int32.ofInt 1 = (1 : Int32) from rfl, nI_1]) (by decide) rfl (fun ls hl => ?_)
                refine lv_goto (tgt := 38) hx hb dX5_front_97 (by decide) ?_
                exact ih38 (n1 + 1) rr an (d + 1) rr (P ++ [(rr, d)]) ls _ _ (by omega) (by omega) (by omega) (by rw [List.length_append, g38_3]; rfl) (by rw [← g38_4, zr_fr_take (Rr := (zr_lg (zr_v B ah) ah sz pp)) (d := d) (n := sp + 1 - d) (k := sp + 1 - (d + 1)) (r := rr) (by omega) h_rr (by omega) (by omega), List.append_assoc]; rfl) (zr_an_no g38_5 (by rw [g38_3]; exact c_8)) (by omega) (by omega) (by omega) hP hS (lv_sub hl [5, 6, 7, 8, 1, 3, 2, 0] rfl)
              · skip
                refine lv_iload_n hx hb dX5_front_73 rfl (lv_at hl 5 rfl) ?_
                refine lv_if_ne (tgt := 82) hx hb dX5_front_74 (by decide) (fun c_9 => ?_) (fun c_9 => ?_)
                · skip
                  refine lv_iload hx hb dX5_front_82 (lv_at hl 8 rfl) ?_
                  refine lv_goto (tgt := 89) hx hb dX5_front_84 (by decide) ?_
                  refine lv_istore (lv' := [(6, .int (nI d)), (5, .int (nI rr)), (8, .int (nI rr)), (0, .ref m_), (1, .int (nI pp)), (2, .int k9), (3, .int w_), (4, .int (nI n1)), (7, .int (nI d))]) hx hb dX5_front_89 hl (by decide) rfl (fun ls hl => ?_)
                  refine lv_iinc (v := (nI (n1 + 1))) (lv' := [(4, .int (nI (n1 + 1))), (6, .int (nI d)), (5, .int (nI rr)), (8, .int (nI rr)), (0, .ref m_), (1, .int (nI pp)), (2, .int k9), (3, .int w_), (7, .int (nI d))]) hx hb dX5_front_91 hl (k := 7) rfl (by rw [show Int32.ofInt 1 = (1 : Int32) from rfl, nI_1]) (by decide) rfl (fun ls hl => ?_)
                  refine lv_iinc (v := (nI (d + 1))) (lv' := [(7, .int (nI (d + 1))), (4, .int (nI (n1 + 1))), (6, .int (nI d)), (5, .int (nI rr)), (8, .int (nI rr)), (0, .ref m_), (1, .int (nI pp)), (2, .int k9), (3, .int w_)]) hx hb dX5_front_94 hl (k := 8) rfl (by rw [show Int32.ofInt 1 = (1 : Int32) from rfl, nI_1]) (by decide) rfl (fun ls hl => ?_)
                  refine lv_goto (tgt := 38) hx hb dX5_front_97 (by decide) ?_
                  exact ih38 (n1 + 1) rr (nI d) (d + 1) rr (P ++ [(rr, d)]) ls _ _ (by omega) (by omega) (by omega) (by rw [List.length_append, g38_3]; rfl) (by rw [← g38_4, zr_fr_take (Rr := (zr_lg (zr_v B ah) ah sz pp)) (d := d) (n := sp + 1 - d) (k := sp + 1 - (d + 1)) (r := rr) (by omega) h_rr (by omega) (by omega), List.append_assoc]; rfl) (zr_an_up (by rw [g38_3]; exact c_8) (by omega) (by rw [if_neg c_9])) (by omega) (by omega) (by omega) hP hS (lv_sub hl [5, 6, 7, 8, 1, 3, 2, 0] rfl)
                · skip
                  refine lv_iload hx hb dX5_front_77 (lv_at hl 1 rfl) ?_
                  refine lv_goto (tgt := 89) hx hb dX5_front_79 (by decide) ?_
                  refine lv_istore (lv' := [(6, .int (nI rr)), (5, .int (nI rr)), (8, .int (nI rr)), (0, .ref m_), (1, .int (nI pp)), (2, .int k9), (3, .int w_), (4, .int (nI n1)), (7, .int (nI d))]) hx hb dX5_front_89 hl (by decide) rfl (fun ls hl => ?_)
                  refine lv_iinc (v := (nI (n1 + 1))) (lv' := [(4, .int (nI (n1 + 1))), (6, .int (nI rr)), (5, .int (nI rr)), (8, .int (nI rr)), (0, .ref m_), (1, .int (nI pp)), (2, .int k9), (3, .int w_), (7, .int (nI d))]) hx hb dX5_front_91 hl (k := 7) rfl (by rw [show Int32.ofInt 1 = (1 : Int32) from rfl, nI_1]) (by decide) rfl (fun ls hl => ?_)
                  refine lv_iinc (v := (nI (d + 1))) (lv' := [(7, .int (nI (d + 1))), (4, .int (nI (n1 + 1))), (6, .int (nI rr)), (5, .int (nI rr)), (8, .int (nI rr)), (0, .ref m_), (1, .int (nI pp)), (2, .int k9), (3, .int w_)]) hx hb dX5_front_94 hl (k := 8) rfl (by rw [show Int32.ofInt 1 = (1 : Int32) from rfl, nI_1]) (by decide) rfl (fun ls hl => ?_)
                  refine lv_goto (tgt := 38) hx hb dX5_front_97 (by decide) ?_
                  exact ih38 (n1 + 1) rr (nI rr) (d + 1) rr (P ++ [(rr, d)]) ls _ _ (by omega) (by omega) (by omega) (by rw [List.length_append, g38_3]; rfl) (by rw [← g38_4, zr_fr_take (Rr := (zr_lg (zr_v B ah) ah sz pp)) (d := d) (n := sp + 1 - d) (k := sp + 1 - (d + 1)) (r := rr) (by omega) h_rr (by omega) (by omega), List.append_assoc]; rfl) (zr_an_up (by rw [g38_3]; exact c_8) (by omega) (by rw [if_pos c_9])) (by omega) (by omega) (by omega) hP hS (lv_sub hl [5, 6, 7, 8, 1, 3, 2, 0] rfl)
      exact L38 (sp + 1 - 1 + 1) 0 0 (-1) 1 2 ([]) ls _ _ (by omega) (by omega) (by omega) rfl zr_fr_Fp zr_an_0 (by omega) (by omega) (by omega) hP hS (lv_sub hl [4, 5, 6, 7, 3, 2, 1, 0] rfl)
    · skip
      have hk0 : k9 < -1 := by rw [Int32.lt_iff_toInt_lt]; rw [Int32.le_iff_toInt_le] at c_2; omega
      refine lv_iconst (v := (-1)) hx hb dX5_front_24 (by decide +kernel) ?_
      exact hret _ ls _ _ _ () dX5_front_25 (by rw [zA_front, zk_val hpp (by omega), if_pos hk0]) hP hS
