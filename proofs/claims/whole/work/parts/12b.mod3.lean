def rmX5_pieces : Room := { frames := 4, cells := 0, slots := 0, locals := 93 }
set_option maxRecDepth 20000 in
theorem ziX5_pieces_5 : ∀ w ∈ wsX50, w ∈ wsX5_pieces := by decide +kernel
set_option maxHeartbeats 4000000 in
set_option maxRecDepth 100000 in
/-- pieces of the reference -/
theorem c_mpieces (l : Launch) (D : va_G) (cI cZ cR : ClassId) (m_ : Nat) (tw : Nat) (sp : Nat) (dp : Nat) (mb : Nat) (sz : Nat) (ah : Nat) (mi : Nat) (mp : Nat) (m1 : Nat) (m2 : Nat) (m3 : Nat) (mc : Nat) (ml : Nat) (bl : Nat) (bd : Nat) (rp : Nat) (B : Nat → Nat) (im : Nat → Nat) (pc : Nat → Nat) (P1 : Nat → Nat) (P2 : Nat → Nat) (P3 : Nat → Nat) (C : Nat → Nat) (L : Nat → Nat) (w_ : Int32) (h0 : ah ≤ 60) (h1 : sz ≤ 300) (h2 : sp ≤ 300) (h3 : dp ≤ 64) (h4 : ∀ j, B j < 256) (h5 : zr_mrows (zr_v B ah) ah sz sp dp im pc P1 P2 P3) : zk_Wi l yX5_pieces wsX5_pieces rmX5_pieces D (zk_t cI cZ cR) [.ref m_, .int w_] [(m_, .inr (5, [.int (nI tw), .int (nI sp), .int (nI dp), .ref mb, .int (nI sz), .int (nI ah), .ref mi, .ref mp, .ref m1, .ref m2, .ref m3, .ref mc, .ref ml, .int (nI bl), .int (nI bd), .int (nI rp)])), (mb, zk_a cI 360 B), (mi, zk_a cZ 4 im), (mp, zk_a cI 4 pc), (m1, zk_a cI 1200 P1), (m2, zk_a cI 1200 P2), (m3, zk_a cI 1200 P3), (mc, zk_a cI 301 C), (ml, zk_a cI 41 L)] (fun (r : Int32) (u : (Nat → Nat) × (Nat → Nat) × (Nat → Nat) × (Nat → Nat) × (Nat → Nat) × (Nat → Nat) × (Nat → Nat) × Nat × Nat) => match u with | (im2, pc2, Q1, Q2, Q3, C2, L2, bl2, bd2) => r = zA_way w_ (fun j => nI (pc2 j)) ∧ (∀ j, j < 4 → w_ = nI j → im2 j = 1) ∧ zr_mrows (zr_v B ah) ah sz sp dp im2 pc2 Q1 Q2 Q3) (fun u => match u with | (im2, pc2, Q1, Q2, Q3, C2, L2, bl2, bd2) => [(m_, .inr (5, [.int (nI 0), .int (nI sp), .int (nI dp), .ref mb, .int (nI sz), .int (nI ah), .ref mi, .ref mp, .ref m1, .ref m2, .ref m3, .ref mc, .ref ml, .int (nI bl2), .int (nI bd2), .int (nI rp)])), (mb, zk_a cI 360 B), (mi, zk_a cZ 4 im2), (mp, zk_a cI 4 pc2), (m1, zk_a cI 1200 Q1), (m2, zk_a cI 1200 Q2), (m3, zk_a cI 1200 Q3), (mc, zk_a cI 301 C2), (ml, zk_a cI 41 L2)]) := by
  refine zk_enterI RX5 cX5_pieces 2 (by decide) rfl rfl (Nat.le_of_ble_eq_true rfl) ?_
  intro p e s m args below meth c ls A Q hx hb hml hown hts hP hK hD hN hl hA hS hret
  have hl : lv_has ls 2 [(0, .ref m_), (1, .int w_)] := hl
  have f17 := hts (.fieldLink RX5 17 "MatchFindersModel" "pieces" "[I") (by decide +kernel)
  have f42 := hts (.fieldLink RX5 42 "MatchFindersModel" "thrown" "I") (by decide +kernel)
  refine lv_aload_n hx hb dX5_pieces_0 rfl (lv_at hl 0 rfl) ?_
  refine lv_iconst (v := (nI 0)) hx hb dX5_pieces_1 (by decide +kernel) ?_
  refine va_put (D := D) (ci := 5) (v := .int (nI 0)) (ty := .int) (C := RX5) (T := TX5) (N := 16) hx hb hts ziX5_pieces_5 tyX5 tyX5_ok nmX5 hown hK hP (zk_D hD rfl) hS 0 rfl rfl 0 (by decide) f42 (fun _ h9 => h9) rfl (by decide +kernel) rfl rfl (Nat.le_of_ble_eq_true rfl) dX5_pieces_2 (fun H locs hP _ hS => ?_)
  have hP : va_P D vwCl [(m_, .inr (5, [.int (nI 0), .int (nI sp), .int (nI dp), .ref mb, .int (nI sz), .int (nI ah), .ref mi, .ref mp, .ref m1, .ref m2, .ref m3, .ref mc, .ref ml, .int (nI bl), .int (nI bd), .int (nI rp)])), (mb, zk_a cI 360 B), (mi, zk_a cZ 4 im), (mp, zk_a cI 4 pc), (m1, zk_a cI 1200 P1), (m2, zk_a cI 1200 P2), (m3, zk_a cI 1200 P3), (mc, zk_a cI 301 C), (ml, zk_a cI 41 L)] H := hP
  refine lv_iload_n hx hb dX5_pieces_5 rfl (lv_at hl 1 rfl) ?_
  refine zk_rdS (As := [.int w_]) (rest := []) ⟨hx, hb, hml, hown, hts⟩ hN (c_misWay l D cI cZ cR w_) (va_cwS 1 hts gX5_pieces_X5_isWay rfl rfl rfl (by decide +kernel) ⟨Nat.le_of_ble_eq_true rfl, Nat.le_of_ble_eq_true rfl⟩) hK hP (zk_D hD rfl) [] rfl (by decide) rfl hl.1 rfl (Nat.le_of_ble_eq_true rfl) dX5_pieces_6 ⟨Nat.zero_le _, Nat.zero_le _⟩ ?_
  refine lv_if_ne (tgt := 14) hx hb dX5_pieces_9 (by decide) (fun c_1 => ?_) (fun c_1 => ?_)
  · skip
    obtain ⟨j, hj1, hj, hje⟩ := zk_in2 (lo := 0) (hi := 3) (by decide) (by decide) c_1
    subst hje
    refine lv_aload_n hx hb dX5_pieces_14 rfl (lv_at hl 0 rfl) ?_
    refine lv_iload_n hx hb dX5_pieces_15 rfl (lv_at hl 1 rfl) ?_
    refine zk_wrV (As := [.int (nI j)]) (rest := []) ⟨hx, hb, hml, hown, hts⟩ hN (c_mmake l D cI cZ cR m_ 0 sp dp mb sz ah mi mp m1 m2 m3 mc ml bl bd rp B im pc P1 P2 P3 C L j (by omega) (by omega) (by omega) (by omega) h4 h5 (by omega)) (cwV 1 hts gX5_pieces_X5_make rfl rfl rfl (by decide +kernel) ⟨Nat.le_of_ble_eq_true rfl, Nat.le_of_ble_eq_true rfl⟩) hK hP (zk_D hD rfl) hS hA [0, 1, 2, 3, 4, 5, 6, 7, 8] rfl (by decide) (fun _ => rfl) rfl rfl rfl rfl hl.1 rfl (Nat.le_of_ble_eq_true rfl) dX5_pieces_16 ⟨Nat.zero_le _, Nat.zero_le _⟩ (fun u H locs hu hP hS => ?_)
    obtain ⟨im9, pc9, R1, R2, R3, C9, L9, bl9, bd9⟩ := u
    have hu : zr_mrows (zr_v B ah) ah sz sp dp im9 pc9 R1 R2 R3 ∧ im9 j = 1 := hu
    have hP : va_P D vwCl [(m_, .inr (5, [.int (nI 0), .int (nI sp), .int (nI dp), .ref mb, .int (nI sz), .int (nI ah), .ref mi, .ref mp, .ref m1, .ref m2, .ref m3, .ref mc, .ref ml, .int (nI bl9), .int (nI bd9), .int (nI rp)])), (mb, zk_a cI 360 B), (mi, zk_a cZ 4 im9), (mp, zk_a cI 4 pc9), (m1, zk_a cI 1200 R1), (m2, zk_a cI 1200 R2), (m3, zk_a cI 1200 R3), (mc, zk_a cI 301 C9), (ml, zk_a cI 41 L9)] H := hP
    refine lv_aload_n hx hb dX5_pieces_19 rfl (lv_at hl 0 rfl) ?_
    refine va_get (D := D) (ci := 5) (v := .ref mp) (C := RX5) (T := TX5) (N := 16) hx hb hts ziX5_pieces_5 hown hK hP 0 rfl rfl 7 (by decide) f17 (fun _ h9 => h9) rfl dX5_pieces_20 ?_
    refine lv_iload_n hx hb dX5_pieces_23 rfl (lv_at hl 1 rfl) ?_
    refine zk_ild (v := pc9 j) hx hb hK hP 3 0 (i := j) (g := pc9) rfl rfl (by omega) (by decide) rfl dX5_pieces_24 ?_
    exact hret _ ls _ _ _ (im9, pc9, R1, R2, R3, C9, L9, bl9, bd9) dX5_pieces_25 ⟨by rw [zA_way, zk_val (show j < 4 by omega) (by decide), nI_clamp (show j < 2 ^ 31 by omega)], fun i h8 h9 => by rw [← (nI_eq (by omega) (by omega)).mp h9]; exact hu.2, hu.1⟩ hP hS
  · skip
    have hno := zk_i34 (zk_in0 (lo := 0) (hi := 3) c_1)
    refine lv_iconst (v := (-1)) hx hb dX5_pieces_12 (by decide +kernel) ?_
    exact hret _ ls _ _ _ (im, pc, P1, P2, P3, C, L, bl, bd) dX5_pieces_13 ⟨by rw [zA_way, zk_inv hno], fun j hj he => absurd hno (zk_wno hj he), h5⟩ hP hS
def rmX5_piece : Room := { frames := 4, cells := 0, slots := 0, locals := 93 }
set_option maxRecDepth 20000 in
theorem ziX5_piece_5 : ∀ w ∈ wsX50, w ∈ wsX5_piece := by decide +kernel
set_option maxHeartbeats 4000000 in
set_option maxRecDepth 100000 in
/-- piece of the reference -/
theorem c_mpiece (l : Launch) (D : va_G) (cI cZ cR : ClassId) (m_ : Nat) (tw : Nat) (sp : Nat) (dp : Nat) (mb : Nat) (sz : Nat) (ah : Nat) (mi : Nat) (mp : Nat) (m1 : Nat) (m2 : Nat) (m3 : Nat) (mc : Nat) (ml : Nat) (bl : Nat) (bd : Nat) (rp : Nat) (B : Nat → Nat) (im : Nat → Nat) (pc : Nat → Nat) (P1 : Nat → Nat) (P2 : Nat → Nat) (P3 : Nat → Nat) (C : Nat → Nat) (L : Nat → Nat) (w_ : Int32) (i_ : Int32) (v_ : Int32) (h0 : ah ≤ 60) (h1 : sz ≤ 300) (h2 : sp ≤ 300) (h3 : dp ≤ 64) (h4 : ∀ j, B j < 256) (h5 : zr_mrows (zr_v B ah) ah sz sp dp im pc P1 P2 P3) : zk_Wi l yX5_piece wsX5_piece rmX5_piece D (zk_t cI cZ cR) [.ref m_, .int w_, .int i_, .int v_] [(m_, .inr (5, [.int (nI tw), .int (nI sp), .int (nI dp), .ref mb, .int (nI sz), .int (nI ah), .ref mi, .ref mp, .ref m1, .ref m2, .ref m3, .ref mc, .ref ml, .int (nI bl), .int (nI bd), .int (nI rp)])), (mb, zk_a cI 360 B), (mi, zk_a cZ 4 im), (mp, zk_a cI 4 pc), (m1, zk_a cI 1200 P1), (m2, zk_a cI 1200 P2), (m3, zk_a cI 1200 P3), (mc, zk_a cI 301 C), (ml, zk_a cI 41 L)] (fun (r : Int32) (u : (Nat → Nat) × (Nat → Nat) × (Nat → Nat) × (Nat → Nat) × (Nat → Nat) × (Nat → Nat) × (Nat → Nat) × Nat × Nat) => match u with | (im2, pc2, Q1, Q2, Q3, C2, L2, bl2, bd2) => r = zA_way w_ (fun j => zA_piece i_ v_ (pc2 j) (fun k => Q1 (300 * j + k)) (fun k => Q2 (300 * j + k)) (fun k => Q3 (300 * j + k))) ∧ (∀ j, j < 4 → w_ = nI j → im2 j = 1) ∧ zr_mrows (zr_v B ah) ah sz sp dp im2 pc2 Q1 Q2 Q3) (fun u => match u with | (im2, pc2, Q1, Q2, Q3, C2, L2, bl2, bd2) => [(m_, .inr (5, [.int (nI 0), .int (nI sp), .int (nI dp), .ref mb, .int (nI sz), .int (nI ah), .ref mi, .ref mp, .ref m1, .ref m2, .ref m3, .ref mc, .ref ml, .int (nI bl2), .int (nI bd2), .int (nI rp)])), (mb, zk_a cI 360 B), (mi, zk_a cZ 4 im2), (mp, zk_a cI 4 pc2), (m1, zk_a cI 1200 Q1), (m2, zk_a cI 1200 Q2), (m3, zk_a cI 1200 Q3), (mc, zk_a cI 301 C2), (ml, zk_a cI 41 L2)]) := by
  refine zk_enterI RX5 cX5_piece 5 (by decide) rfl rfl (Nat.le_of_ble_eq_true rfl) ?_
  intro p e s m args below meth c ls A Q hx hb hml hown hts hP hK hD hN hl hA hS hret
  have hl : lv_has ls 5 [(0, .ref m_), (1, .int w_), (2, .int i_), (3, .int v_)] := hl
  have f17 := hts (.fieldLink RX5 17 "MatchFindersModel" "pieces" "[I") (by decide +kernel)
  have f20 := hts (.fieldLink RX5 20 "MatchFindersModel" "place" "[I") (by decide +kernel)
  have f23 := hts (.fieldLink RX5 23 "MatchFindersModel" "length" "[I") (by decide +kernel)
  have f26 := hts (.fieldLink RX5 26 "MatchFindersModel" "distance" "[I") (by decide +kernel)
  have f42 := hts (.fieldLink RX5 42 "MatchFindersModel" "thrown" "I") (by decide +kernel)
  refine lv_aload_n hx hb dX5_piece_0 rfl (lv_at hl 0 rfl) ?_
  refine lv_iconst (v := (nI 0)) hx hb dX5_piece_1 (by decide +kernel) ?_
  refine va_put (D := D) (ci := 5) (v := .int (nI 0)) (ty := .int) (C := RX5) (T := TX5) (N := 16) hx hb hts ziX5_piece_5 tyX5 tyX5_ok nmX5 hown hK hP (zk_D hD rfl) hS 0 rfl rfl 0 (by decide) f42 (fun _ h9 => h9) rfl (by decide +kernel) rfl rfl (Nat.le_of_ble_eq_true rfl) dX5_piece_2 (fun H locs hP _ hS => ?_)
  have hP : va_P D vwCl [(m_, .inr (5, [.int (nI 0), .int (nI sp), .int (nI dp), .ref mb, .int (nI sz), .int (nI ah), .ref mi, .ref mp, .ref m1, .ref m2, .ref m3, .ref mc, .ref ml, .int (nI bl), .int (nI bd), .int (nI rp)])), (mb, zk_a cI 360 B), (mi, zk_a cZ 4 im), (mp, zk_a cI 4 pc), (m1, zk_a cI 1200 P1), (m2, zk_a cI 1200 P2), (m3, zk_a cI 1200 P3), (mc, zk_a cI 301 C), (ml, zk_a cI 41 L)] H := hP
  refine lv_iload_n hx hb dX5_piece_5 rfl (lv_at hl 1 rfl) ?_
  refine zk_rdS (As := [.int w_]) (rest := []) ⟨hx, hb, hml, hown, hts⟩ hN (c_misWay l D cI cZ cR w_) (va_cwS 1 hts gX5_piece_X5_isWay rfl rfl rfl (by decide +kernel) ⟨Nat.le_of_ble_eq_true rfl, Nat.le_of_ble_eq_true rfl⟩) hK hP (zk_D hD rfl) [] rfl (by decide) rfl hl.1 rfl (Nat.le_of_ble_eq_true rfl) dX5_piece_6 ⟨Nat.zero_le _, Nat.zero_le _⟩ ?_
  refine lv_if_ne (tgt := 14) hx hb dX5_piece_9 (by decide) (fun c_1 => ?_) (fun c_1 => ?_)
  · skip
    obtain ⟨j, hj1, hj, hje⟩ := zk_in2 (lo := 0) (hi := 3) (by decide) (by decide) c_1
    subst hje
    refine lv_aload_n hx hb dX5_piece_14 rfl (lv_at hl 0 rfl) ?_
    refine lv_iload_n hx hb dX5_piece_15 rfl (lv_at hl 1 rfl) ?_
    refine zk_wrV (As := [.int (nI j)]) (rest := []) ⟨hx, hb, hml, hown, hts⟩ hN (c_mmake l D cI cZ cR m_ 0 sp dp mb sz ah mi mp m1 m2 m3 mc ml bl bd rp B im pc P1 P2 P3 C L j (by omega) (by omega) (by omega) (by omega) h4 h5 (by omega)) (cwV 1 hts gX5_piece_X5_make rfl rfl rfl (by decide +kernel) ⟨Nat.le_of_ble_eq_true rfl, Nat.le_of_ble_eq_true rfl⟩) hK hP (zk_D hD rfl) hS hA [0, 1, 2, 3, 4, 5, 6, 7, 8] rfl (by decide) (fun _ => rfl) rfl rfl rfl rfl hl.1 rfl (Nat.le_of_ble_eq_true rfl) dX5_piece_16 ⟨Nat.zero_le _, Nat.zero_le _⟩ (fun u H locs hu hP hS => ?_)
    obtain ⟨im9, pc9, R1, R2, R3, C9, L9, bl9, bd9⟩ := u
    have hu : zr_mrows (zr_v B ah) ah sz sp dp im9 pc9 R1 R2 R3 ∧ im9 j = 1 := hu
    have hP : va_P D vwCl [(m_, .inr (5, [.int (nI 0), .int (nI sp), .int (nI dp), .ref mb, .int (nI sz), .int (nI ah), .ref mi, .ref mp, .ref m1, .ref m2, .ref m3, .ref mc, .ref ml, .int (nI bl9), .int (nI bd9), .int (nI rp)])), (mb, zk_a cI 360 B), (mi, zk_a cZ 4 im9), (mp, zk_a cI 4 pc9), (m1, zk_a cI 1200 R1), (m2, zk_a cI 1200 R2), (m3, zk_a cI 1200 R3), (mc, zk_a cI 301 C9), (ml, zk_a cI 41 L9)] H := hP
    have hct : pc9 j ≤ 300 := zr_mct hu.1 hu.2 (by omega) h1
    refine lv_iload_n hx hb dX5_piece_19 rfl (lv_at hl 2 rfl) ?_
    refine lv_iconst (v := (nI 0)) hx hb dX5_piece_20 (by decide +kernel) ?_
    refine lv_aload_n hx hb dX5_piece_21 rfl (lv_at hl 0 rfl) ?_
    refine va_get (D := D) (ci := 5) (v := .ref mp) (C := RX5) (T := TX5) (N := 16) hx hb hts ziX5_piece_5 hown hK hP 0 rfl rfl 7 (by decide) f17 (fun _ h9 => h9) rfl dX5_piece_22 ?_
    refine lv_iload_n hx hb dX5_piece_25 rfl (lv_at hl 1 rfl) ?_
    refine zk_ild (v := pc9 j) hx hb hK hP 3 0 (i := j) (g := pc9) rfl rfl (by omega) (by decide) rfl dX5_piece_26 ?_
    refine lv_iconst (v := (nI 1)) hx hb dX5_piece_27 (by decide +kernel) ?_
    refine lv_isub hx hb dX5_piece_28 ?_
    refine zk_rdS (As := [.int i_, .int (nI 0), .int ((nI (pc9 j)) - (nI 1))]) (rest := []) ⟨hx, hb, hml, hown, hts⟩ hN (c_in l D cI cZ cR i_ (nI 0) ((nI (pc9 j)) - (nI 1))) (va_cwS 3 hts gX5_piece_X5_in rfl rfl rfl (by decide +kernel) ⟨Nat.le_of_ble_eq_true rfl, Nat.le_of_ble_eq_true rfl⟩) hK hP (zk_D hD rfl) [] rfl (by decide) rfl hl.1 rfl (Nat.le_of_ble_eq_true rfl) dX5_piece_29 ⟨Nat.zero_le _, Nat.zero_le _⟩ ?_
    refine lv_if_ne (tgt := 37) hx hb dX5_piece_32 (by decide) (fun c_2 => ?_) (fun c_2 => ?_)
    · skip
      obtain ⟨ii, hii, hie⟩ := zk_inp hct c_2
      subst hie
      refine lv_sipush (v := (nI 300)) hx hb dX5_piece_37 (by decide +kernel) ?_
      refine lv_iload_n hx hb dX5_piece_40 rfl (lv_at hl 1 rfl) ?_
      refine zk_mul (v := 300 * j) hx hb rfl dX5_piece_41 ?_
      refine lv_iload_n hx hb dX5_piece_42 rfl (lv_at hl 2 rfl) ?_
      refine zk_add (v := (300 * j) + ii) hx hb (rfl) dX5_piece_43 ?_
      refine lv_istore (lv' := [(4, .int (nI ((300 * j) + ii))), (0, .ref m_), (1, .int (nI j)), (2, .int (nI ii)), (3, .int v_)]) hx hb dX5_piece_44 hl (by decide) rfl (fun ls hl => ?_)
      refine lv_iload_n hx hb dX5_piece_46 rfl (lv_at hl 4 rfl) ?_
      refine lv_if_ne (tgt := 60) hx hb dX5_piece_47 (by decide) (fun c_3 => ?_) (fun c_3 => ?_)
      · skip
        refine lv_iload_n hx hb dX5_piece_60 rfl (lv_at hl 4 rfl) ?_
        refine lv_iconst (v := (nI 1)) hx hb dX5_piece_61 (by decide +kernel) ?_
        refine lv_icmp_ne (tgt := 75) hx hb dX5_piece_62 (by decide) (fun c_4 => ?_) (fun c_4 => ?_)
        · skip
          refine lv_iload_n hx hb dX5_piece_75 rfl (lv_at hl 4 rfl) ?_
          refine lv_iconst (v := (nI 2)) hx hb dX5_piece_76 (by decide +kernel) ?_
          refine lv_icmp_ne (tgt := 90) hx hb dX5_piece_77 (by decide) (fun c_5 => ?_) (fun c_5 => ?_)
          · skip
            refine lv_bipush (v := (-2)) hx hb dX5_piece_90 (by decide +kernel) ?_
            exact hret _ ls _ _ _ (im9, pc9, R1, R2, R3, C9, L9, bl9, bd9) dX5_piece_92 ⟨by rw [zA_way, zk_val (show j < 4 by omega) (by decide), nI_clamp (show j < 2 ^ 31 by omega), zA_piece, zk_val hii (by omega), if_neg (zk_0n' c_3), if_neg c_4, if_neg c_5], fun i h8 h9 => by rw [← (nI_eq (by omega) (by omega)).mp h9]; exact hu.2, hu.1⟩ hP hS
          · skip
            refine lv_aload_n hx hb dX5_piece_80 rfl (lv_at hl 1 rfl) ?_
            refine va_get (D := D) (ci := 5) (v := .ref m3) (C := RX5) (T := TX5) (N := 16) hx hb hts ziX5_piece_5 hown hK hP 0 rfl rfl 10 (by decide) f26 (fun _ h9 => h9) rfl dX5_piece_81 ?_
            refine lv_iload hx hb dX5_piece_84 (lv_at hl 0 rfl) ?_
            refine zk_ild (v := R3 ((300 * j) + ii)) hx hb hK hP 6 0 (i := (300 * j) + ii) (g := R3) rfl rfl (by omega) (by decide) rfl dX5_piece_86 ?_
            refine lv_goto (tgt := 92) hx hb dX5_piece_87 (by decide) ?_
            exact hret _ ls _ _ _ (im9, pc9, R1, R2, R3, C9, L9, bl9, bd9) dX5_piece_92 ⟨by rw [zA_way, zk_val (show j < 4 by omega) (by decide), nI_clamp (show j < 2 ^ 31 by omega), zA_piece, zk_val hii (by omega), if_neg (zk_0n' c_3), if_neg c_4, if_pos c_5, nI_clamp (show ii < 2 ^ 31 by omega)], fun i h8 h9 => by rw [← (nI_eq (by omega) (by omega)).mp h9]; exact hu.2, hu.1⟩ hP hS
        · skip
          refine lv_aload_n hx hb dX5_piece_65 rfl (lv_at hl 1 rfl) ?_
          refine va_get (D := D) (ci := 5) (v := .ref m2) (C := RX5) (T := TX5) (N := 16) hx hb hts ziX5_piece_5 hown hK hP 0 rfl rfl 9 (by decide) f23 (fun _ h9 => h9) rfl dX5_piece_66 ?_
          refine lv_iload hx hb dX5_piece_69 (lv_at hl 0 rfl) ?_
          refine zk_ild (v := R2 ((300 * j) + ii)) hx hb hK hP 5 0 (i := (300 * j) + ii) (g := R2) rfl rfl (by omega) (by decide) rfl dX5_piece_71 ?_
          refine lv_goto (tgt := 92) hx hb dX5_piece_72 (by decide) ?_
          exact hret _ ls _ _ _ (im9, pc9, R1, R2, R3, C9, L9, bl9, bd9) dX5_piece_92 ⟨by rw [zA_way, zk_val (show j < 4 by omega) (by decide), nI_clamp (show j < 2 ^ 31 by omega), zA_piece, zk_val hii (by omega), if_neg (zk_0n' c_3), if_pos c_4, nI_clamp (show ii < 2 ^ 31 by omega)], fun i h8 h9 => by rw [← (nI_eq (by omega) (by omega)).mp h9]; exact hu.2, hu.1⟩ hP hS
      · skip
        refine lv_aload_n hx hb dX5_piece_50 rfl (lv_at hl 1 rfl) ?_
        refine va_get (D := D) (ci := 5) (v := .ref m1) (C := RX5) (T := TX5) (N := 16) hx hb hts ziX5_piece_5 hown hK hP 0 rfl rfl 8 (by decide) f20 (fun _ h9 => h9) rfl dX5_piece_51 ?_
        refine lv_iload hx hb dX5_piece_54 (lv_at hl 0 rfl) ?_
        refine zk_ild (v := R1 ((300 * j) + ii)) hx hb hK hP 4 0 (i := (300 * j) + ii) (g := R1) rfl rfl (by omega) (by decide) rfl dX5_piece_56 ?_
        refine lv_goto (tgt := 92) hx hb dX5_piece_57 (by decide) ?_
        exact hret _ ls _ _ _ (im9, pc9, R1, R2, R3, C9, L9, bl9, bd9) dX5_piece_92 ⟨by rw [zA_way, zk_val (show j < 4 by omega) (by decide), nI_clamp (show j < 2 ^ 31 by omega), zA_piece, zk_val hii (by omega), if_pos (zk_0n c_3), nI_clamp (show ii < 2 ^ 31 by omega)], fun i h8 h9 => by rw [← (nI_eq (by omega) (by omega)).mp h9]; exact hu.2, hu.1⟩ hP hS
    · skip
      have hin := zk_inq hct c_2
      refine lv_iconst (v := (-1)) hx hb dX5_piece_35 (by decide +kernel) ?_
      exact hret _ ls _ _ _ (im9, pc9, R1, R2, R3, C9, L9, bl9, bd9) dX5_piece_36 ⟨by rw [zA_way, zk_val (show j < 4 by omega) (by decide), nI_clamp (show j < 2 ^ 31 by omega), zA_piece, zk_inv hin], fun i h8 h9 => by rw [← (nI_eq (by omega) (by omega)).mp h9]; exact hu.2, hu.1⟩ hP hS
  · skip
    have hno := zk_i34 (zk_in0 (lo := 0) (hi := 3) c_1)
    refine lv_iconst (v := (-1)) hx hb dX5_piece_12 (by decide +kernel) ?_
    exact hret _ ls _ _ _ (im, pc, P1, P2, P3, C, L, bl, bd) dX5_piece_13 ⟨by rw [zA_way, zk_inv hno], fun j hj he => absurd hno (zk_wno hj he), h5⟩ hP hS
