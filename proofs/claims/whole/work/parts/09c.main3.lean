def rmX4_piece : Room := { frames := 7, cells := 0, slots := 0, locals := 158 }
set_option maxRecDepth 20000 in
theorem ziX4_piece_2 : ∀ w ∈ wsX20, w ∈ wsX4_piece := by decide +kernel
set_option maxHeartbeats 4000000 in
set_option maxRecDepth 100000 in
/-- piece -/
theorem c_piece (l : Launch) (D : va_G) (cI cZ cR : ClassId) (x_ : Nat) (q_ : Nat) (t : Nat) (f : Nat) (k_ : Nat) (rf : Nat → Option Nat) (sp : Nat) (dp : Nat) (fa : Nat) (fb : Nat) (b : Nat) (ka : Nat) (kb : Nat) (kd : Nat) (r : Nat → Nat) (ra : Nat → Nat) (rb : Nat → Nat) (rd : Nat → Nat) (fl : Nat → Nat) (fd : Nat → Nat) (fc : Nat) (le : Nat) (di : Nat) (g : Nat → Nat) (ah : Nat) (sz : Nat) (co : Nat → Nat) (pn : Nat → Nat) (pd : Nat → Nat) (ct : Nat → Nat) (pb : Nat → Nat) (bw : Nat → Nat) (rc : Nat → Nat) (to : Nat → Nat) (la : Nat → Nat) (se : Nat → Nat) (th : Nat → Nat) (pl : Nat → Nat → Nat) (ln : Nat → Nat → Nat) (ds : Nat → Nat → Nat) (w_ : Int32) (i_ : Int32) (v_ : Int32) (h0 : ah ≤ 60) (h1 : sz ≤ 300) (h2 : sp ≤ 300) (h3 : dp ≤ 64) (h4 : ∀ j, g j < 256) (h5 : ∀ i, i < 4 → rf i = some (r i)) (h6 : zr_rows g ah sz sp dp to ct pb bw rc pl ln ds) : zk_Wi l yX4_piece wsX4_piece rmX4_piece D (zk_t cI cZ cR) [.ref x_, .int w_, .int i_, .int v_] [(x_, .inr (4, [.ref t, .ref f, .ref k_, .ref q_])), (f, .inr (0, [.ref t, .int (nI sp), .int (nI dp), .ref fa, .ref fb, .int (nI fc), .int (nI le), .int (nI di)])), (fa, zk_a cI 38 fl), (fb, zk_a cI 38 fd), (t, .inr (3, [.ref b, .int (nI ah), .int (nI sz)])), (b, zk_a cI 360 g), (k_, .inr (1, [.ref ka, .ref kb, .ref kd])), (ka, zk_a cI 301 co), (kb, zk_a cI 300 pn), (kd, zk_a cI 300 pd), (q_, .inl (cR, 4, .inr (.inr (.inr (.inr rf))))), (r 0, .inr (2, [.ref (ra 0), .ref (rb 0), .ref (rd 0), .int (nI (ct 0)), .int (nI (pb 0)), .int (nI (bw 0)), .int (nI (rc 0)), .int (nI (to 0)), .int (nI (la 0)), .int (nI (se 0)), .int (nI (th 0))])), (ra 0, zk_a cI 300 (pl 0)), (rb 0, zk_a cI 300 (ln 0)), (rd 0, zk_a cI 300 (ds 0)), (r 1, .inr (2, [.ref (ra 1), .ref (rb 1), .ref (rd 1), .int (nI (ct 1)), .int (nI (pb 1)), .int (nI (bw 1)), .int (nI (rc 1)), .int (nI (to 1)), .int (nI (la 1)), .int (nI (se 1)), .int (nI (th 1))])), (ra 1, zk_a cI 300 (pl 1)), (rb 1, zk_a cI 300 (ln 1)), (rd 1, zk_a cI 300 (ds 1)), (r 2, .inr (2, [.ref (ra 2), .ref (rb 2), .ref (rd 2), .int (nI (ct 2)), .int (nI (pb 2)), .int (nI (bw 2)), .int (nI (rc 2)), .int (nI (to 2)), .int (nI (la 2)), .int (nI (se 2)), .int (nI (th 2))])), (ra 2, zk_a cI 300 (pl 2)), (rb 2, zk_a cI 300 (ln 2)), (rd 2, zk_a cI 300 (ds 2)), (r 3, .inr (2, [.ref (ra 3), .ref (rb 3), .ref (rd 3), .int (nI (ct 3)), .int (nI (pb 3)), .int (nI (bw 3)), .int (nI (rc 3)), .int (nI (to 3)), .int (nI (la 3)), .int (nI (se 3)), .int (nI (th 3))])), (ra 3, zk_a cI 300 (pl 3)), (rb 3, zk_a cI 300 (ln 3)), (rd 3, zk_a cI 300 (ds 3))] (fun (r : Int32) (u : (Nat → Nat) × (Nat → Nat) × Nat × Nat × Nat × (Nat → Nat) × (Nat → Nat) × (Nat → Nat) × (Nat → Nat) × (Nat → Nat) × (Nat → Nat) × (Nat → Nat) × (Nat → Nat) × (Nat → Nat) × (Nat → Nat) × (Nat → Nat) × (Nat → Nat → Nat) × (Nat → Nat → Nat) × (Nat → Nat → Nat)) => match u with | (fl2, fd2, fc2, le2, di2, co2, pn2, pd2, ct2, pb2, bw2, rc2, to2, la2, se2, th2, pl2, ln2, ds2) => r = zA_way w_ (fun j => zA_piece i_ v_ (ct2 j) (pl2 j) (ln2 j) (ds2 j)) ∧ (∀ j, j < 4 → w_ = nI j → to2 j = 1) ∧ zr_rows g ah sz sp dp to2 ct2 pb2 bw2 rc2 pl2 ln2 ds2) (fun u => match u with | (fl2, fd2, fc2, le2, di2, co2, pn2, pd2, ct2, pb2, bw2, rc2, to2, la2, se2, th2, pl2, ln2, ds2) => [(x_, .inr (4, [.ref t, .ref f, .ref k_, .ref q_])), (f, .inr (0, [.ref t, .int (nI sp), .int (nI dp), .ref fa, .ref fb, .int (nI fc2), .int (nI le2), .int (nI di2)])), (fa, zk_a cI 38 fl2), (fb, zk_a cI 38 fd2), (t, .inr (3, [.ref b, .int (nI ah), .int (nI sz)])), (b, zk_a cI 360 g), (k_, .inr (1, [.ref ka, .ref kb, .ref kd])), (ka, zk_a cI 301 co2), (kb, zk_a cI 300 pn2), (kd, zk_a cI 300 pd2), (q_, .inl (cR, 4, .inr (.inr (.inr (.inr rf))))), (r 0, .inr (2, [.ref (ra 0), .ref (rb 0), .ref (rd 0), .int (nI (ct2 0)), .int (nI (pb2 0)), .int (nI (bw2 0)), .int (nI (rc2 0)), .int (nI (to2 0)), .int (nI (la2 0)), .int (nI (se2 0)), .int (nI (th2 0))])), (ra 0, zk_a cI 300 (pl2 0)), (rb 0, zk_a cI 300 (ln2 0)), (rd 0, zk_a cI 300 (ds2 0)), (r 1, .inr (2, [.ref (ra 1), .ref (rb 1), .ref (rd 1), .int (nI (ct2 1)), .int (nI (pb2 1)), .int (nI (bw2 1)), .int (nI (rc2 1)), .int (nI (to2 1)), .int (nI (la2 1)), .int (nI (se2 1)), .int (nI (th2 1))])), (ra 1, zk_a cI 300 (pl2 1)), (rb 1, zk_a cI 300 (ln2 1)), (rd 1, zk_a cI 300 (ds2 1)), (r 2, .inr (2, [.ref (ra 2), .ref (rb 2), .ref (rd 2), .int (nI (ct2 2)), .int (nI (pb2 2)), .int (nI (bw2 2)), .int (nI (rc2 2)), .int (nI (to2 2)), .int (nI (la2 2)), .int (nI (se2 2)), .int (nI (th2 2))])), (ra 2, zk_a cI 300 (pl2 2)), (rb 2, zk_a cI 300 (ln2 2)), (rd 2, zk_a cI 300 (ds2 2)), (r 3, .inr (2, [.ref (ra 3), .ref (rb 3), .ref (rd 3), .int (nI (ct2 3)), .int (nI (pb2 3)), .int (nI (bw2 3)), .int (nI (rc2 3)), .int (nI (to2 3)), .int (nI (la2 3)), .int (nI (se2 3)), .int (nI (th2 3))])), (ra 3, zk_a cI 300 (pl2 3)), (rb 3, zk_a cI 300 (ln2 3)), (rd 3, zk_a cI 300 (ds2 3))]) := by
  refine zk_enterI RX4 cX4_piece 5 (by decide) rfl rfl (Nat.le_of_ble_eq_true rfl) ?_
  intro p e s m args below meth c ls A Q hx hb hml hown hts hP hK hD hN hl hA hS hret
  have hl : lv_has ls 5 [(0, .ref x_), (1, .int w_), (2, .int i_), (3, .int v_)] := hl
  have f105 := hts (.fieldLink RX4 105 "MatchFinders$Row" "count" "I") (by decide +kernel)
  have f108 := hts (.fieldLink RX4 108 "MatchFinders$Row" "places" "[I") (by decide +kernel)
  have f111 := hts (.fieldLink RX4 111 "MatchFinders$Row" "lengths" "[I") (by decide +kernel)
  have f114 := hts (.fieldLink RX4 114 "MatchFinders$Row" "distances" "[I") (by decide +kernel)
  refine lv_iload_n hx hb dX4_piece_0 rfl (lv_at hl 1 rfl) ?_
  refine zk_rdS (As := [.int w_]) (rest := []) ⟨hx, hb, hml, hown, hts⟩ hN (c_isWay l D cI cZ cR w_) (va_cwS 1 hts gX4_piece_X4_isWay rfl rfl rfl (by decide +kernel) ⟨Nat.le_of_ble_eq_true rfl, Nat.le_of_ble_eq_true rfl⟩) hK hP (zk_D hD rfl) [] rfl (by decide) rfl hl.1 rfl (Nat.le_of_ble_eq_true rfl) dX4_piece_1 ⟨Nat.zero_le _, Nat.zero_le _⟩ ?_
  refine lv_if_ne (tgt := 9) hx hb dX4_piece_4 (by decide) (fun c_1 => ?_) (fun c_1 => ?_)
  · skip
    obtain ⟨j, hj, hje⟩ := zk_wz2 (by decide) c_1
    subst hje
    rcases (show j = 0 ∨ j = 1 ∨ j = 2 ∨ j = 3 by omega) with hw | hw | hw | hw
    · subst hw
      refine lv_aload_n hx hb dX4_piece_9 rfl (lv_at hl 0 rfl) ?_
      refine lv_iload_n hx hb dX4_piece_10 rfl (lv_at hl 1 rfl) ?_
      refine zk_wrA (As := [.int (nI 0)]) (rest := []) ⟨hx, hb, hml, hown, hts⟩ hN (c_rowOf l D cI cZ cR x_ q_ f sp dp fa fb fc le di fl fd t b ah sz g k_ ka kb kd co pn pd rf (r 0) (ra 0) (rb 0) (rd 0) (ct 0) (pb 0) (bw 0) (rc 0) (to 0) (la 0) (se 0) (th 0) (pl 0) (ln 0) (ds 0) 0 (by omega) (by omega) (by omega) (by omega) h4 (by decide) (h5 0 (by decide)) (h6 0 (by decide))) (cwV 1 hts gX4_piece_X4_rowOf rfl rfl rfl (by decide +kernel) ⟨Nat.le_of_ble_eq_true rfl, Nat.le_of_ble_eq_true rfl⟩) hK hP (zk_D hD rfl) hS hA [0, 1, 2, 3, 4, 5, 6, 7, 8, 9, 10, 11, 12, 13, 14] rfl (by decide) (fun _ => rfl) rfl rfl rfl rfl hl.1 rfl (Nat.le_of_ble_eq_true rfl) dX4_piece_11 ⟨Nat.zero_le _, Nat.zero_le _⟩ (fun u H locs hu hP hS => ?_)
      obtain ⟨co9, pn9, pd9, fl9, fd9, fc9, le9, di9, pl9, ln9, ds9, ct9, pb9, bw9, rc9, la9, se9, th9⟩ := u
      have hu : zr_row 0 g ah sz sp dp ct9 pb9 bw9 rc9 pl9 ln9 ds9 := hu
      have hP : va_P D vwCl [(x_, .inr (4, [.ref t, .ref f, .ref k_, .ref q_])), (f, .inr (0, [.ref t, .int (nI sp), .int (nI dp), .ref fa, .ref fb, .int (nI fc9), .int (nI le9), .int (nI di9)])), (fa, zk_a cI 38 fl9), (fb, zk_a cI 38 fd9), (t, .inr (3, [.ref b, .int (nI ah), .int (nI sz)])), (b, zk_a cI 360 g), (k_, .inr (1, [.ref ka, .ref kb, .ref kd])), (ka, zk_a cI 301 co9), (kb, zk_a cI 300 pn9), (kd, zk_a cI 300 pd9), (q_, .inl (cR, 4, .inr (.inr (.inr (.inr rf))))), (r 0, .inr (2, [.ref (ra 0), .ref (rb 0), .ref (rd 0), .int (nI ct9), .int (nI pb9), .int (nI bw9), .int (nI rc9), .int (nI 1), .int (nI la9), .int (nI se9), .int (nI th9)])), (ra 0, zk_a cI 300 pl9), (rb 0, zk_a cI 300 ln9), (rd 0, zk_a cI 300 ds9), (r 1, .inr (2, [.ref (ra 1), .ref (rb 1), .ref (rd 1), .int (nI (ct 1)), .int (nI (pb 1)), .int (nI (bw 1)), .int (nI (rc 1)), .int (nI (to 1)), .int (nI (la 1)), .int (nI (se 1)), .int (nI (th 1))])), (ra 1, zk_a cI 300 (pl 1)), (rb 1, zk_a cI 300 (ln 1)), (rd 1, zk_a cI 300 (ds 1)), (r 2, .inr (2, [.ref (ra 2), .ref (rb 2), .ref (rd 2), .int (nI (ct 2)), .int (nI (pb 2)), .int (nI (bw 2)), .int (nI (rc 2)), .int (nI (to 2)), .int (nI (la 2)), .int (nI (se 2)), .int (nI (th 2))])), (ra 2, zk_a cI 300 (pl 2)), (rb 2, zk_a cI 300 (ln 2)), (rd 2, zk_a cI 300 (ds 2)), (r 3, .inr (2, [.ref (ra 3), .ref (rb 3), .ref (rd 3), .int (nI (ct 3)), .int (nI (pb 3)), .int (nI (bw 3)), .int (nI (rc 3)), .int (nI (to 3)), .int (nI (la 3)), .int (nI (se 3)), .int (nI (th 3))])), (ra 3, zk_a cI 300 (pl 3)), (rb 3, zk_a cI 300 (ln 3)), (rd 3, zk_a cI 300 (ds 3))] H := hP
      refine lv_astore (lv' := [(4, .ref (r 0)), (0, .ref x_), (1, .int (nI 0)), (2, .int i_), (3, .int v_)]) hx hb dX4_piece_14 hl (by decide) rfl (fun ls hl => ?_)
      refine lv_iload_n hx hb dX4_piece_16 rfl (lv_at hl 3 rfl) ?_
      refine lv_if_lt (tgt := 29) hx hb dX4_piece_17 (by decide) (fun c_2 => ?_) (fun c_2 => ?_)
      · skip
        refine lv_iconst (v := (-1)) hx hb dX4_piece_29 (by decide +kernel) ?_
        exact hret _ ls _ _ _ (fl9, fd9, fc9, le9, di9, co9, pn9, pd9, zk_up ct 0 ct9, zk_up pb 0 pb9, zk_up bw 0 bw9, zk_up rc 0 rc9, zk_up to 0 1, zk_up la 0 la9, zk_up se 0 se9, zk_up th 0 th9, zk_upF pl 0 pl9, zk_upF ln 0 ln9, zk_upF ds 0 ds9) dX4_piece_30 ⟨by rw [zA_way, zk_val (n := 4) (by decide) (by decide)]; exact (zk_pcn (Or.inl c_2)).symm, fun j hj he => by rw [(nI_eq (by omega) (by decide)).mp he.symm]; exact zk_up_eq _ _ _, zr_rows_up h6 hu⟩ hP hS
      · skip
        refine lv_iload_n hx hb dX4_piece_20 rfl (lv_at hl 3 rfl) ?_
        refine lv_aload hx hb dX4_piece_21 (lv_at hl 0 rfl) ?_
        refine va_get (D := D) (ci := 2) (v := .int (nI ct9)) (C := RX2) (T := TX2) (N := 11) hx hb hts ziX4_piece_2 hown hK hP 11 rfl rfl 3 (by decide) f105 (fun _ h9 => h9) rfl dX4_piece_23 ?_
        refine lv_icmp_lt (tgt := 31) hx hb dX4_piece_26 (by decide) (fun c_3 => ?_) (fun c_3 => ?_)
        · skip
          obtain ⟨ii, hii, hie⟩ := zk_ii c_2 c_3 (zr_row_ct hu h1)
          subst hie
          have hct := zr_row_ct hu h1
          refine lv_iload_n hx hb dX4_piece_31 rfl (lv_at hl 4 rfl) ?_
          by_cases hv0 : v_ = nI 0
          · subst hv0
            refine lv_tableIn (off := 28) (tgt := 60) hx hb dX4_piece_32 (by decide +kernel) (by decide +kernel) (by decide +kernel) (by decide) ?_
            refine lv_aload hx hb dX4_piece_60 (lv_at hl 0 rfl) ?_
            refine va_get (D := D) (ci := 2) (v := .ref (ra 0)) (C := RX2) (T := TX2) (N := 11) hx hb hts ziX4_piece_2 hown hK hP 11 rfl rfl 0 (by decide) f108 (fun _ h9 => h9) rfl dX4_piece_62 ?_
            refine lv_iload_n hx hb dX4_piece_65 rfl (lv_at hl 3 rfl) ?_
            refine zk_ild (v := pl9 ii) hx hb hK hP 12 0 (i := ii) (g := pl9) rfl rfl (by omega) (by decide) rfl dX4_piece_66 ?_
            exact hret _ ls _ _ _ (fl9, fd9, fc9, le9, di9, co9, pn9, pd9, zk_up ct 0 ct9, zk_up pb 0 pb9, zk_up bw 0 bw9, zk_up rc 0 rc9, zk_up to 0 1, zk_up la 0 la9, zk_up se 0 se9, zk_up th 0 th9, zk_upF pl 0 pl9, zk_upF ln 0 ln9, zk_upF ds 0 ds9) dX4_piece_67 ⟨by rw [zA_way, zk_val (n := 4) (by decide) (by decide)]; exact (zk_pc0 hii (by omega)).symm, fun j hj he => by rw [(nI_eq (by omega) (by decide)).mp he.symm]; exact zk_up_eq _ _ _, zr_rows_up h6 hu⟩ hP hS
          · skip
            have hz0 := hv0
            clear hv0
            by_cases hv0 : v_ = nI 1
            · subst hv0
              refine lv_tableIn (off := 36) (tgt := 68) hx hb dX4_piece_32 (by decide +kernel) (by decide +kernel) (by decide +kernel) (by decide) ?_
              refine lv_aload hx hb dX4_piece_68 (lv_at hl 0 rfl) ?_
              refine va_get (D := D) (ci := 2) (v := .ref (rb 0)) (C := RX2) (T := TX2) (N := 11) hx hb hts ziX4_piece_2 hown hK hP 11 rfl rfl 1 (by decide) f111 (fun _ h9 => h9) rfl dX4_piece_70 ?_
              refine lv_iload_n hx hb dX4_piece_73 rfl (lv_at hl 3 rfl) ?_
              refine zk_ild (v := ln9 ii) hx hb hK hP 13 0 (i := ii) (g := ln9) rfl rfl (by omega) (by decide) rfl dX4_piece_74 ?_
              exact hret _ ls _ _ _ (fl9, fd9, fc9, le9, di9, co9, pn9, pd9, zk_up ct 0 ct9, zk_up pb 0 pb9, zk_up bw 0 bw9, zk_up rc 0 rc9, zk_up to 0 1, zk_up la 0 la9, zk_up se 0 se9, zk_up th 0 th9, zk_upF pl 0 pl9, zk_upF ln 0 ln9, zk_upF ds 0 ds9) dX4_piece_75 ⟨by rw [zA_way, zk_val (n := 4) (by decide) (by decide)]; exact (zk_pc1 hii (by omega)).symm, fun j hj he => by rw [(nI_eq (by omega) (by decide)).mp he.symm]; exact zk_up_eq _ _ _, zr_rows_up h6 hu⟩ hP hS
            · skip
              have hz1 := hv0
              clear hv0
              by_cases hv0 : v_ = nI 2
              · subst hv0
                refine lv_tableIn (off := 44) (tgt := 76) hx hb dX4_piece_32 (by decide +kernel) (by decide +kernel) (by decide +kernel) (by decide) ?_
                refine lv_aload hx hb dX4_piece_76 (lv_at hl 0 rfl) ?_
                refine va_get (D := D) (ci := 2) (v := .ref (rd 0)) (C := RX2) (T := TX2) (N := 11) hx hb hts ziX4_piece_2 hown hK hP 11 rfl rfl 2 (by decide) f114 (fun _ h9 => h9) rfl dX4_piece_78 ?_
                refine lv_iload_n hx hb dX4_piece_81 rfl (lv_at hl 3 rfl) ?_
                refine zk_ild (v := ds9 ii) hx hb hK hP 14 0 (i := ii) (g := ds9) rfl rfl (by omega) (by decide) rfl dX4_piece_82 ?_
                exact hret _ ls _ _ _ (fl9, fd9, fc9, le9, di9, co9, pn9, pd9, zk_up ct 0 ct9, zk_up pb 0 pb9, zk_up bw 0 bw9, zk_up rc 0 rc9, zk_up to 0 1, zk_up la 0 la9, zk_up se 0 se9, zk_up th 0 th9, zk_upF pl 0 pl9, zk_upF ln 0 ln9, zk_upF ds 0 ds9) dX4_piece_83 ⟨by rw [zA_way, zk_val (n := 4) (by decide) (by decide)]; exact (zk_pc2 hii (by omega)).symm, fun j hj he => by rw [(nI_eq (by omega) (by decide)).mp he.symm]; exact zk_up_eq _ _ _, zr_rows_up h6 hu⟩ hP hS
              · skip
                refine lv_tableOut (tgt := 84) hx hb dX4_piece_32 (zk_out3 hz0 hz1 hv0) (by decide) ?_
                refine lv_bipush (v := (-2)) hx hb dX4_piece_84 (by decide +kernel) ?_
                exact hret _ ls _ _ _ (fl9, fd9, fc9, le9, di9, co9, pn9, pd9, zk_up ct 0 ct9, zk_up pb 0 pb9, zk_up bw 0 bw9, zk_up rc 0 rc9, zk_up to 0 1, zk_up la 0 la9, zk_up se 0 se9, zk_up th 0 th9, zk_upF pl 0 pl9, zk_upF ln 0 ln9, zk_upF ds 0 ds9) dX4_piece_86 ⟨by rw [zA_way, zk_val (n := 4) (by decide) (by decide)]; exact (zk_pc3 hii (by omega) hz0 hz1 hv0).symm, fun j hj he => by rw [(nI_eq (by omega) (by decide)).mp he.symm]; exact zk_up_eq _ _ _, zr_rows_up h6 hu⟩ hP hS
        · skip
          refine lv_iconst (v := (-1)) hx hb dX4_piece_29 (by decide +kernel) ?_
          exact hret _ ls _ _ _ (fl9, fd9, fc9, le9, di9, co9, pn9, pd9, zk_up ct 0 ct9, zk_up pb 0 pb9, zk_up bw 0 bw9, zk_up rc 0 rc9, zk_up to 0 1, zk_up la 0 la9, zk_up se 0 se9, zk_up th 0 th9, zk_upF pl 0 pl9, zk_upF ln 0 ln9, zk_upF ds 0 ds9) dX4_piece_30 ⟨by rw [zA_way, zk_val (n := 4) (by decide) (by decide)]; exact (zk_pcn (Or.inr (zk_nl c_3))).symm, fun j hj he => by rw [(nI_eq (by omega) (by decide)).mp he.symm]; exact zk_up_eq _ _ _, zr_rows_up h6 hu⟩ hP hS
    · subst hw
      refine lv_aload_n hx hb dX4_piece_9 rfl (lv_at hl 0 rfl) ?_
      refine lv_iload_n hx hb dX4_piece_10 rfl (lv_at hl 1 rfl) ?_
      refine zk_wrA (As := [.int (nI 1)]) (rest := []) ⟨hx, hb, hml, hown, hts⟩ hN (c_rowOf l D cI cZ cR x_ q_ f sp dp fa fb fc le di fl fd t b ah sz g k_ ka kb kd co pn pd rf (r 1) (ra 1) (rb 1) (rd 1) (ct 1) (pb 1) (bw 1) (rc 1) (to 1) (la 1) (se 1) (th 1) (pl 1) (ln 1) (ds 1) 1 (by omega) (by omega) (by omega) (by omega) h4 (by decide) (h5 1 (by decide)) (h6 1 (by decide))) (cwV 1 hts gX4_piece_X4_rowOf rfl rfl rfl (by decide +kernel) ⟨Nat.le_of_ble_eq_true rfl, Nat.le_of_ble_eq_true rfl⟩) hK hP (zk_D hD rfl) hS hA [0, 1, 2, 3, 4, 5, 6, 7, 8, 9, 10, 15, 16, 17, 18] rfl (by decide) (fun _ => rfl) rfl rfl rfl rfl hl.1 rfl (Nat.le_of_ble_eq_true rfl) dX4_piece_11 ⟨Nat.zero_le _, Nat.zero_le _⟩ (fun u H locs hu hP hS => ?_)
      obtain ⟨co9, pn9, pd9, fl9, fd9, fc9, le9, di9, pl9, ln9, ds9, ct9, pb9, bw9, rc9, la9, se9, th9⟩ := u
      have hu : zr_row 1 g ah sz sp dp ct9 pb9 bw9 rc9 pl9 ln9 ds9 := hu
      have hP : va_P D vwCl [(x_, .inr (4, [.ref t, .ref f, .ref k_, .ref q_])), (f, .inr (0, [.ref t, .int (nI sp), .int (nI dp), .ref fa, .ref fb, .int (nI fc9), .int (nI le9), .int (nI di9)])), (fa, zk_a cI 38 fl9), (fb, zk_a cI 38 fd9), (t, .inr (3, [.ref b, .int (nI ah), .int (nI sz)])), (b, zk_a cI 360 g), (k_, .inr (1, [.ref ka, .ref kb, .ref kd])), (ka, zk_a cI 301 co9), (kb, zk_a cI 300 pn9), (kd, zk_a cI 300 pd9), (q_, .inl (cR, 4, .inr (.inr (.inr (.inr rf))))), (r 0, .inr (2, [.ref (ra 0), .ref (rb 0), .ref (rd 0), .int (nI (ct 0)), .int (nI (pb 0)), .int (nI (bw 0)), .int (nI (rc 0)), .int (nI (to 0)), .int (nI (la 0)), .int (nI (se 0)), .int (nI (th 0))])), (ra 0, zk_a cI 300 (pl 0)), (rb 0, zk_a cI 300 (ln 0)), (rd 0, zk_a cI 300 (ds 0)), (r 1, .inr (2, [.ref (ra 1), .ref (rb 1), .ref (rd 1), .int (nI ct9), .int (nI pb9), .int (nI bw9), .int (nI rc9), .int (nI 1), .int (nI la9), .int (nI se9), .int (nI th9)])), (ra 1, zk_a cI 300 pl9), (rb 1, zk_a cI 300 ln9), (rd 1, zk_a cI 300 ds9), (r 2, .inr (2, [.ref (ra 2), .ref (rb 2), .ref (rd 2), .int (nI (ct 2)), .int (nI (pb 2)), .int (nI (bw 2)), .int (nI (rc 2)), .int (nI (to 2)), .int (nI (la 2)), .int (nI (se 2)), .int (nI (th 2))])), (ra 2, zk_a cI 300 (pl 2)), (rb 2, zk_a cI 300 (ln 2)), (rd 2, zk_a cI 300 (ds 2)), (r 3, .inr (2, [.ref (ra 3), .ref (rb 3), .ref (rd 3), .int (nI (ct 3)), .int (nI (pb 3)), .int (nI (bw 3)), .int (nI (rc 3)), .int (nI (to 3)), .int (nI (la 3)), .int (nI (se 3)), .int (nI (th 3))])), (ra 3, zk_a cI 300 (pl 3)), (rb 3, zk_a cI 300 (ln 3)), (rd 3, zk_a cI 300 (ds 3))] H := hP
      refine lv_astore (lv' := [(4, .ref (r 1)), (0, .ref x_), (1, .int (nI 1)), (2, .int i_), (3, .int v_)]) hx hb dX4_piece_14 hl (by decide) rfl (fun ls hl => ?_)
      refine lv_iload_n hx hb dX4_piece_16 rfl (lv_at hl 3 rfl) ?_
      refine lv_if_lt (tgt := 29) hx hb dX4_piece_17 (by decide) (fun c_4 => ?_) (fun c_4 => ?_)
      · skip
        refine lv_iconst (v := (-1)) hx hb dX4_piece_29 (by decide +kernel) ?_
        exact hret _ ls _ _ _ (fl9, fd9, fc9, le9, di9, co9, pn9, pd9, zk_up ct 1 ct9, zk_up pb 1 pb9, zk_up bw 1 bw9, zk_up rc 1 rc9, zk_up to 1 1, zk_up la 1 la9, zk_up se 1 se9, zk_up th 1 th9, zk_upF pl 1 pl9, zk_upF ln 1 ln9, zk_upF ds 1 ds9) dX4_piece_30 ⟨by rw [zA_way, zk_val (n := 4) (by decide) (by decide)]; exact (zk_pcn (Or.inl c_4)).symm, fun j hj he => by rw [(nI_eq (by omega) (by decide)).mp he.symm]; exact zk_up_eq _ _ _, zr_rows_up h6 hu⟩ hP hS
      · skip
        refine lv_iload_n hx hb dX4_piece_20 rfl (lv_at hl 3 rfl) ?_
        refine lv_aload hx hb dX4_piece_21 (lv_at hl 0 rfl) ?_
        refine va_get (D := D) (ci := 2) (v := .int (nI ct9)) (C := RX2) (T := TX2) (N := 11) hx hb hts ziX4_piece_2 hown hK hP 15 rfl rfl 3 (by decide) f105 (fun _ h9 => h9) rfl dX4_piece_23 ?_
        refine lv_icmp_lt (tgt := 31) hx hb dX4_piece_26 (by decide) (fun c_5 => ?_) (fun c_5 => ?_)
        · skip
          obtain ⟨ii, hii, hie⟩ := zk_ii c_4 c_5 (zr_row_ct hu h1)
          subst hie
          have hct := zr_row_ct hu h1
          refine lv_iload_n hx hb dX4_piece_31 rfl (lv_at hl 4 rfl) ?_
          by_cases hv0 : v_ = nI 0
          · subst hv0
            refine lv_tableIn (off := 28) (tgt := 60) hx hb dX4_piece_32 (by decide +kernel) (by decide +kernel) (by decide +kernel) (by decide) ?_
            refine lv_aload hx hb dX4_piece_60 (lv_at hl 0 rfl) ?_
            refine va_get (D := D) (ci := 2) (v := .ref (ra 1)) (C := RX2) (T := TX2) (N := 11) hx hb hts ziX4_piece_2 hown hK hP 15 rfl rfl 0 (by decide) f108 (fun _ h9 => h9) rfl dX4_piece_62 ?_
            refine lv_iload_n hx hb dX4_piece_65 rfl (lv_at hl 3 rfl) ?_
            refine zk_ild (v := pl9 ii) hx hb hK hP 16 0 (i := ii) (g := pl9) rfl rfl (by omega) (by decide) rfl dX4_piece_66 ?_
            exact hret _ ls _ _ _ (fl9, fd9, fc9, le9, di9, co9, pn9, pd9, zk_up ct 1 ct9, zk_up pb 1 pb9, zk_up bw 1 bw9, zk_up rc 1 rc9, zk_up to 1 1, zk_up la 1 la9, zk_up se 1 se9, zk_up th 1 th9, zk_upF pl 1 pl9, zk_upF ln 1 ln9, zk_upF ds 1 ds9) dX4_piece_67 ⟨by rw [zA_way, zk_val (n := 4) (by decide) (by decide)]; exact (zk_pc0 hii (by omega)).symm, fun j hj he => by rw [(nI_eq (by omega) (by decide)).mp he.symm]; exact zk_up_eq _ _ _, zr_rows_up h6 hu⟩ hP hS
          · skip
            have hz0 := hv0
            clear hv0
            by_cases hv0 : v_ = nI 1
            · subst hv0
              refine lv_tableIn (off := 36) (tgt := 68) hx hb dX4_piece_32 (by decide +kernel) (by decide +kernel) (by decide +kernel) (by decide) ?_
              refine lv_aload hx hb dX4_piece_68 (lv_at hl 0 rfl) ?_
              refine va_get (D := D) (ci := 2) (v := .ref (rb 1)) (C := RX2) (T := TX2) (N := 11) hx hb hts ziX4_piece_2 hown hK hP 15 rfl rfl 1 (by decide) f111 (fun _ h9 => h9) rfl dX4_piece_70 ?_
              refine lv_iload_n hx hb dX4_piece_73 rfl (lv_at hl 3 rfl) ?_
              refine zk_ild (v := ln9 ii) hx hb hK hP 17 0 (i := ii) (g := ln9) rfl rfl (by omega) (by decide) rfl dX4_piece_74 ?_
              exact hret _ ls _ _ _ (fl9, fd9, fc9, le9, di9, co9, pn9, pd9, zk_up ct 1 ct9, zk_up pb 1 pb9, zk_up bw 1 bw9, zk_up rc 1 rc9, zk_up to 1 1, zk_up la 1 la9, zk_up se 1 se9, zk_up th 1 th9, zk_upF pl 1 pl9, zk_upF ln 1 ln9, zk_upF ds 1 ds9) dX4_piece_75 ⟨by rw [zA_way, zk_val (n := 4) (by decide) (by decide)]; exact (zk_pc1 hii (by omega)).symm, fun j hj he => by rw [(nI_eq (by omega) (by decide)).mp he.symm]; exact zk_up_eq _ _ _, zr_rows_up h6 hu⟩ hP hS
            · skip
              have hz1 := hv0
              clear hv0
              by_cases hv0 : v_ = nI 2
              · subst hv0
                refine lv_tableIn (off := 44) (tgt := 76) hx hb dX4_piece_32 (by decide +kernel) (by decide +kernel) (by decide +kernel) (by decide) ?_
                refine lv_aload hx hb dX4_piece_76 (lv_at hl 0 rfl) ?_
                refine va_get (D := D) (ci := 2) (v := .ref (rd 1)) (C := RX2) (T := TX2) (N := 11) hx hb hts ziX4_piece_2 hown hK hP 15 rfl rfl 2 (by decide) f114 (fun _ h9 => h9) rfl dX4_piece_78 ?_
                refine lv_iload_n hx hb dX4_piece_81 rfl (lv_at hl 3 rfl) ?_
                refine zk_ild (v := ds9 ii) hx hb hK hP 18 0 (i := ii) (g := ds9) rfl rfl (by omega) (by decide) rfl dX4_piece_82 ?_
                exact hret _ ls _ _ _ (fl9, fd9, fc9, le9, di9, co9, pn9, pd9, zk_up ct 1 ct9, zk_up pb 1 pb9, zk_up bw 1 bw9, zk_up rc 1 rc9, zk_up to 1 1, zk_up la 1 la9, zk_up se 1 se9, zk_up th 1 th9, zk_upF pl 1 pl9, zk_upF ln 1 ln9, zk_upF ds 1 ds9) dX4_piece_83 ⟨by rw [zA_way, zk_val (n := 4) (by decide) (by decide)]; exact (zk_pc2 hii (by omega)).symm, fun j hj he => by rw [(nI_eq (by omega) (by decide)).mp he.symm]; exact zk_up_eq _ _ _, zr_rows_up h6 hu⟩ hP hS
              · skip
                refine lv_tableOut (tgt := 84) hx hb dX4_piece_32 (zk_out3 hz0 hz1 hv0) (by decide) ?_
                refine lv_bipush (v := (-2)) hx hb dX4_piece_84 (by decide +kernel) ?_
                exact hret _ ls _ _ _ (fl9, fd9, fc9, le9, di9, co9, pn9, pd9, zk_up ct 1 ct9, zk_up pb 1 pb9, zk_up bw 1 bw9, zk_up rc 1 rc9, zk_up to 1 1, zk_up la 1 la9, zk_up se 1 se9, zk_up th 1 th9, zk_upF pl 1 pl9, zk_upF ln 1 ln9, zk_upF ds 1 ds9) dX4_piece_86 ⟨by rw [zA_way, zk_val (n := 4) (by decide) (by decide)]; exact (zk_pc3 hii (by omega) hz0 hz1 hv0).symm, fun j hj he => by rw [(nI_eq (by omega) (by decide)).mp he.symm]; exact zk_up_eq _ _ _, zr_rows_up h6 hu⟩ hP hS
        · skip
          refine lv_iconst (v := (-1)) hx hb dX4_piece_29 (by decide +kernel) ?_
          exact hret _ ls _ _ _ (fl9, fd9, fc9, le9, di9, co9, pn9, pd9, zk_up ct 1 ct9, zk_up pb 1 pb9, zk_up bw 1 bw9, zk_up rc 1 rc9, zk_up to 1 1, zk_up la 1 la9, zk_up se 1 se9, zk_up th 1 th9, zk_upF pl 1 pl9, zk_upF ln 1 ln9, zk_upF ds 1 ds9) dX4_piece_30 ⟨by rw [zA_way, zk_val (n := 4) (by decide) (by decide)]; exact (zk_pcn (Or.inr (zk_nl c_5))).symm, fun j hj he => by rw [(nI_eq (by omega) (by decide)).mp he.symm]; exact zk_up_eq _ _ _, zr_rows_up h6 hu⟩ hP hS
    · subst hw
      refine lv_aload_n hx hb dX4_piece_9 rfl (lv_at hl 0 rfl) ?_
      refine lv_iload_n hx hb dX4_piece_10 rfl (lv_at hl 1 rfl) ?_
      refine zk_wrA (As := [.int (nI 2)]) (rest := []) ⟨hx, hb, hml, hown, hts⟩ hN (c_rowOf l D cI cZ cR x_ q_ f sp dp fa fb fc le di fl fd t b ah sz g k_ ka kb kd co pn pd rf (r 2) (ra 2) (rb 2) (rd 2) (ct 2) (pb 2) (bw 2) (rc 2) (to 2) (la 2) (se 2) (th 2) (pl 2) (ln 2) (ds 2) 2 (by omega) (by omega) (by omega) (by omega) h4 (by decide) (h5 2 (by decide)) (h6 2 (by decide))) (cwV 1 hts gX4_piece_X4_rowOf rfl rfl rfl (by decide +kernel) ⟨Nat.le_of_ble_eq_true rfl, Nat.le_of_ble_eq_true rfl⟩) hK hP (zk_D hD rfl) hS hA [0, 1, 2, 3, 4, 5, 6, 7, 8, 9, 10, 19, 20, 21, 22] rfl (by decide) (fun _ => rfl) rfl rfl rfl rfl hl.1 rfl (Nat.le_of_ble_eq_true rfl) dX4_piece_11 ⟨Nat.zero_le _, Nat.zero_le _⟩ (fun u H locs hu hP hS => ?_)
      obtain ⟨co9, pn9, pd9, fl9, fd9, fc9, le9, di9, pl9, ln9, ds9, ct9, pb9, bw9, rc9, la9, se9, th9⟩ := u
      have hu : zr_row 2 g ah sz sp dp ct9 pb9 bw9 rc9 pl9 ln9 ds9 := hu
      have hP : va_P D vwCl [(x_, .inr (4, [.ref t, .ref f, .ref k_, .ref q_])), (f, .inr (0, [.ref t, .int (nI sp), .int (nI dp), .ref fa, .ref fb, .int (nI fc9), .int (nI le9), .int (nI di9)])), (fa, zk_a cI 38 fl9), (fb, zk_a cI 38 fd9), (t, .inr (3, [.ref b, .int (nI ah), .int (nI sz)])), (b, zk_a cI 360 g), (k_, .inr (1, [.ref ka, .ref kb, .ref kd])), (ka, zk_a cI 301 co9), (kb, zk_a cI 300 pn9), (kd, zk_a cI 300 pd9), (q_, .inl (cR, 4, .inr (.inr (.inr (.inr rf))))), (r 0, .inr (2, [.ref (ra 0), .ref (rb 0), .ref (rd 0), .int (nI (ct 0)), .int (nI (pb 0)), .int (nI (bw 0)), .int (nI (rc 0)), .int (nI (to 0)), .int (nI (la 0)), .int (nI (se 0)), .int (nI (th 0))])), (ra 0, zk_a cI 300 (pl 0)), (rb 0, zk_a cI 300 (ln 0)), (rd 0, zk_a cI 300 (ds 0)), (r 1, .inr (2, [.ref (ra 1), .ref (rb 1), .ref (rd 1), .int (nI (ct 1)), .int (nI (pb 1)), .int (nI (bw 1)), .int (nI (rc 1)), .int (nI (to 1)), .int (nI (la 1)), .int (nI (se 1)), .int (nI (th 1))])), (ra 1, zk_a cI 300 (pl 1)), (rb 1, zk_a cI 300 (ln 1)), (rd 1, zk_a cI 300 (ds 1)), (r 2, .inr (2, [.ref (ra 2), .ref (rb 2), .ref (rd 2), .int (nI ct9), .int (nI pb9), .int (nI bw9), .int (nI rc9), .int (nI 1), .int (nI la9), .int (nI se9), .int (nI th9)])), (ra 2, zk_a cI 300 pl9), (rb 2, zk_a cI 300 ln9), (rd 2, zk_a cI 300 ds9), (r 3, .inr (2, [.ref (ra 3), .ref (rb 3), .ref (rd 3), .int (nI (ct 3)), .int (nI (pb 3)), .int (nI (bw 3)), .int (nI (rc 3)), .int (nI (to 3)), .int (nI (la 3)), .int (nI (se 3)), .int (nI (th 3))])), (ra 3, zk_a cI 300 (pl 3)), (rb 3, zk_a cI 300 (ln 3)), (rd 3, zk_a cI 300 (ds 3))] H := hP
      refine lv_astore (lv' := [(4, .ref (r 2)), (0, .ref x_), (1, .int (nI 2)), (2, .int i_), (3, .int v_)]) hx hb dX4_piece_14 hl (by decide) rfl (fun ls hl => ?_)
      refine lv_iload_n hx hb dX4_piece_16 rfl (lv_at hl 3 rfl) ?_
      refine lv_if_lt (tgt := 29) hx hb dX4_piece_17 (by decide) (fun c_6 => ?_) (fun c_6 => ?_)
      · skip
        refine lv_iconst (v := (-1)) hx hb dX4_piece_29 (by decide +kernel) ?_
        exact hret _ ls _ _ _ (fl9, fd9, fc9, le9, di9, co9, pn9, pd9, zk_up ct 2 ct9, zk_up pb 2 pb9, zk_up bw 2 bw9, zk_up rc 2 rc9, zk_up to 2 1, zk_up la 2 la9, zk_up se 2 se9, zk_up th 2 th9, zk_upF pl 2 pl9, zk_upF ln 2 ln9, zk_upF ds 2 ds9) dX4_piece_30 ⟨by rw [zA_way, zk_val (n := 4) (by decide) (by decide)]; exact (zk_pcn (Or.inl c_6)).symm, fun j hj he => by rw [(nI_eq (by omega) (by decide)).mp he.symm]; exact zk_up_eq _ _ _, zr_rows_up h6 hu⟩ hP hS
      · skip
        refine lv_iload_n hx hb dX4_piece_20 rfl (lv_at hl 3 rfl) ?_
        refine lv_aload hx hb dX4_piece_21 (lv_at hl 0 rfl) ?_
        refine va_get (D := D) (ci := 2) (v := .int (nI ct9)) (C := RX2) (T := TX2) (N := 11) hx hb hts ziX4_piece_2 hown hK hP 19 rfl rfl 3 (by decide) f105 (fun _ h9 => h9) rfl dX4_piece_23 ?_
        refine lv_icmp_lt (tgt := 31) hx hb dX4_piece_26 (by decide) (fun c_7 => ?_) (fun c_7 => ?_)
        · skip
          obtain ⟨ii, hii, hie⟩ := zk_ii c_6 c_7 (zr_row_ct hu h1)
          subst hie
          have hct := zr_row_ct hu h1
          refine lv_iload_n hx hb dX4_piece_31 rfl (lv_at hl 4 rfl) ?_
          by_cases hv0 : v_ = nI 0
          · subst hv0
            refine lv_tableIn (off := 28) (tgt := 60) hx hb dX4_piece_32 (by decide +kernel) (by decide +kernel) (by decide +kernel) (by decide) ?_
            refine lv_aload hx hb dX4_piece_60 (lv_at hl 0 rfl) ?_
            refine va_get (D := D) (ci := 2) (v := .ref (ra 2)) (C := RX2) (T := TX2) (N := 11) hx hb hts ziX4_piece_2 hown hK hP 19 rfl rfl 0 (by decide) f108 (fun _ h9 => h9) rfl dX4_piece_62 ?_
            refine lv_iload_n hx hb dX4_piece_65 rfl (lv_at hl 3 rfl) ?_
            refine zk_ild (v := pl9 ii) hx hb hK hP 20 0 (i := ii) (g := pl9) rfl rfl (by omega) (by decide) rfl dX4_piece_66 ?_
            exact hret _ ls _ _ _ (fl9, fd9, fc9, le9, di9, co9, pn9, pd9, zk_up ct 2 ct9, zk_up pb 2 pb9, zk_up bw 2 bw9, zk_up rc 2 rc9, zk_up to 2 1, zk_up la 2 la9, zk_up se 2 se9, zk_up th 2 th9, zk_upF pl 2 pl9, zk_upF ln 2 ln9, zk_upF ds 2 ds9) dX4_piece_67 ⟨by rw [zA_way, zk_val (n := 4) (by decide) (by decide)]; exact (zk_pc0 hii (by omega)).symm, fun j hj he => by rw [(nI_eq (by omega) (by decide)).mp he.symm]; exact zk_up_eq _ _ _, zr_rows_up h6 hu⟩ hP hS
          · skip
            have hz0 := hv0
            clear hv0
            by_cases hv0 : v_ = nI 1
            · subst hv0
              refine lv_tableIn (off := 36) (tgt := 68) hx hb dX4_piece_32 (by decide +kernel) (by decide +kernel) (by decide +kernel) (by decide) ?_
              refine lv_aload hx hb dX4_piece_68 (lv_at hl 0 rfl) ?_
              refine va_get (D := D) (ci := 2) (v := .ref (rb 2)) (C := RX2) (T := TX2) (N := 11) hx hb hts ziX4_piece_2 hown hK hP 19 rfl rfl 1 (by decide) f111 (fun _ h9 => h9) rfl dX4_piece_70 ?_
              refine lv_iload_n hx hb dX4_piece_73 rfl (lv_at hl 3 rfl) ?_
              refine zk_ild (v := ln9 ii) hx hb hK hP 21 0 (i := ii) (g := ln9) rfl rfl (by omega) (by decide) rfl dX4_piece_74 ?_
              exact hret _ ls _ _ _ (fl9, fd9, fc9, le9, di9, co9, pn9, pd9, zk_up ct 2 ct9, zk_up pb 2 pb9, zk_up bw 2 bw9, zk_up rc 2 rc9, zk_up to 2 1, zk_up la 2 la9, zk_up se 2 se9, zk_up th 2 th9, zk_upF pl 2 pl9, zk_upF ln 2 ln9, zk_upF ds 2 ds9) dX4_piece_75 ⟨by rw [zA_way, zk_val (n := 4) (by decide) (by decide)]; exact (zk_pc1 hii (by omega)).symm, fun j hj he => by rw [(nI_eq (by omega) (by decide)).mp he.symm]; exact zk_up_eq _ _ _, zr_rows_up h6 hu⟩ hP hS
            · skip
              have hz1 := hv0
              clear hv0
              by_cases hv0 : v_ = nI 2
              · subst hv0
                refine lv_tableIn (off := 44) (tgt := 76) hx hb dX4_piece_32 (by decide +kernel) (by decide +kernel) (by decide +kernel) (by decide) ?_
                refine lv_aload hx hb dX4_piece_76 (lv_at hl 0 rfl) ?_
                refine va_get (D := D) (ci := 2) (v := .ref (rd 2)) (C := RX2) (T := TX2) (N := 11) hx hb hts ziX4_piece_2 hown hK hP 19 rfl rfl 2 (by decide) f114 (fun _ h9 => h9) rfl dX4_piece_78 ?_
                refine lv_iload_n hx hb dX4_piece_81 rfl (lv_at hl 3 rfl) ?_
                refine zk_ild (v := ds9 ii) hx hb hK hP 22 0 (i := ii) (g := ds9) rfl rfl (by omega) (by decide) rfl dX4_piece_82 ?_
                exact hret _ ls _ _ _ (fl9, fd9, fc9, le9, di9, co9, pn9, pd9, zk_up ct 2 ct9, zk_up pb 2 pb9, zk_up bw 2 bw9, zk_up rc 2 rc9, zk_up to 2 1, zk_up la 2 la9, zk_up se 2 se9, zk_up th 2 th9, zk_upF pl 2 pl9, zk_upF ln 2 ln9, zk_upF ds 2 ds9) dX4_piece_83 ⟨by rw [zA_way, zk_val (n := 4) (by decide) (by decide)]; exact (zk_pc2 hii (by omega)).symm, fun j hj he => by rw [(nI_eq (by omega) (by decide)).mp he.symm]; exact zk_up_eq _ _ _, zr_rows_up h6 hu⟩ hP hS
              · skip
                refine lv_tableOut (tgt := 84) hx hb dX4_piece_32 (zk_out3 hz0 hz1 hv0) (by decide) ?_
                refine lv_bipush (v := (-2)) hx hb dX4_piece_84 (by decide +kernel) ?_
                exact hret _ ls _ _ _ (fl9, fd9, fc9, le9, di9, co9, pn9, pd9, zk_up ct 2 ct9, zk_up pb 2 pb9, zk_up bw 2 bw9, zk_up rc 2 rc9, zk_up to 2 1, zk_up la 2 la9, zk_up se 2 se9, zk_up th 2 th9, zk_upF pl 2 pl9, zk_upF ln 2 ln9, zk_upF ds 2 ds9) dX4_piece_86 ⟨by rw [zA_way, zk_val (n := 4) (by decide) (by decide)]; exact (zk_pc3 hii (by omega) hz0 hz1 hv0).symm, fun j hj he => by rw [(nI_eq (by omega) (by decide)).mp he.symm]; exact zk_up_eq _ _ _, zr_rows_up h6 hu⟩ hP hS
        · skip
          refine lv_iconst (v := (-1)) hx hb dX4_piece_29 (by decide +kernel) ?_
          exact hret _ ls _ _ _ (fl9, fd9, fc9, le9, di9, co9, pn9, pd9, zk_up ct 2 ct9, zk_up pb 2 pb9, zk_up bw 2 bw9, zk_up rc 2 rc9, zk_up to 2 1, zk_up la 2 la9, zk_up se 2 se9, zk_up th 2 th9, zk_upF pl 2 pl9, zk_upF ln 2 ln9, zk_upF ds 2 ds9) dX4_piece_30 ⟨by rw [zA_way, zk_val (n := 4) (by decide) (by decide)]; exact (zk_pcn (Or.inr (zk_nl c_7))).symm, fun j hj he => by rw [(nI_eq (by omega) (by decide)).mp he.symm]; exact zk_up_eq _ _ _, zr_rows_up h6 hu⟩ hP hS
    · subst hw
      refine lv_aload_n hx hb dX4_piece_9 rfl (lv_at hl 0 rfl) ?_
      refine lv_iload_n hx hb dX4_piece_10 rfl (lv_at hl 1 rfl) ?_
      refine zk_wrA (As := [.int (nI 3)]) (rest := []) ⟨hx, hb, hml, hown, hts⟩ hN (c_rowOf l D cI cZ cR x_ q_ f sp dp fa fb fc le di fl fd t b ah sz g k_ ka kb kd co pn pd rf (r 3) (ra 3) (rb 3) (rd 3) (ct 3) (pb 3) (bw 3) (rc 3) (to 3) (la 3) (se 3) (th 3) (pl 3) (ln 3) (ds 3) 3 (by omega) (by omega) (by omega) (by omega) h4 (by decide) (h5 3 (by decide)) (h6 3 (by decide))) (cwV 1 hts gX4_piece_X4_rowOf rfl rfl rfl (by decide +kernel) ⟨Nat.le_of_ble_eq_true rfl, Nat.le_of_ble_eq_true rfl⟩) hK hP (zk_D hD rfl) hS hA [0, 1, 2, 3, 4, 5, 6, 7, 8, 9, 10, 23, 24, 25, 26] rfl (by decide) (fun _ => rfl) rfl rfl rfl rfl hl.1 rfl (Nat.le_of_ble_eq_true rfl) dX4_piece_11 ⟨Nat.zero_le _, Nat.zero_le _⟩ (fun u H locs hu hP hS => ?_)
      obtain ⟨co9, pn9, pd9, fl9, fd9, fc9, le9, di9, pl9, ln9, ds9, ct9, pb9, bw9, rc9, la9, se9, th9⟩ := u
      have hu : zr_row 3 g ah sz sp dp ct9 pb9 bw9 rc9 pl9 ln9 ds9 := hu
      have hP : va_P D vwCl [(x_, .inr (4, [.ref t, .ref f, .ref k_, .ref q_])), (f, .inr (0, [.ref t, .int (nI sp), .int (nI dp), .ref fa, .ref fb, .int (nI fc9), .int (nI le9), .int (nI di9)])), (fa, zk_a cI 38 fl9), (fb, zk_a cI 38 fd9), (t, .inr (3, [.ref b, .int (nI ah), .int (nI sz)])), (b, zk_a cI 360 g), (k_, .inr (1, [.ref ka, .ref kb, .ref kd])), (ka, zk_a cI 301 co9), (kb, zk_a cI 300 pn9), (kd, zk_a cI 300 pd9), (q_, .inl (cR, 4, .inr (.inr (.inr (.inr rf))))), (r 0, .inr (2, [.ref (ra 0), .ref (rb 0), .ref (rd 0), .int (nI (ct 0)), .int (nI (pb 0)), .int (nI (bw 0)), .int (nI (rc 0)), .int (nI (to 0)), .int (nI (la 0)), .int (nI (se 0)), .int (nI (th 0))])), (ra 0, zk_a cI 300 (pl 0)), (rb 0, zk_a cI 300 (ln 0)), (rd 0, zk_a cI 300 (ds 0)), (r 1, .inr (2, [.ref (ra 1), .ref (rb 1), .ref (rd 1), .int (nI (ct 1)), .int (nI (pb 1)), .int (nI (bw 1)), .int (nI (rc 1)), .int (nI (to 1)), .int (nI (la 1)), .int (nI (se 1)), .int (nI (th 1))])), (ra 1, zk_a cI 300 (pl 1)), (rb 1, zk_a cI 300 (ln 1)), (rd 1, zk_a cI 300 (ds 1)), (r 2, .inr (2, [.ref (ra 2), .ref (rb 2), .ref (rd 2), .int (nI (ct 2)), .int (nI (pb 2)), .int (nI (bw 2)), .int (nI (rc 2)), .int (nI (to 2)), .int (nI (la 2)), .int (nI (se 2)), .int (nI (th 2))])), (ra 2, zk_a cI 300 (pl 2)), (rb 2, zk_a cI 300 (ln 2)), (rd 2, zk_a cI 300 (ds 2)), (r 3, .inr (2, [.ref (ra 3), .ref (rb 3), .ref (rd 3), .int (nI ct9), .int (nI pb9), .int (nI bw9), .int (nI rc9), .int (nI 1), .int (nI la9), .int (nI se9), .int (nI th9)])), (ra 3, zk_a cI 300 pl9), (rb 3, zk_a cI 300 ln9), (rd 3, zk_a cI 300 ds9)] H := hP
      refine lv_astore (lv' := [(4, .ref (r 3)), (0, .ref x_), (1, .int (nI 3)), (2, .int i_), (3, .int v_)]) hx hb dX4_piece_14 hl (by decide) rfl (fun ls hl => ?_)
      refine lv_iload_n hx hb dX4_piece_16 rfl (lv_at hl 3 rfl) ?_
      refine lv_if_lt (tgt := 29) hx hb dX4_piece_17 (by decide) (fun c_8 => ?_) (fun c_8 => ?_)
      · skip
        refine lv_iconst (v := (-1)) hx hb dX4_piece_29 (by decide +kernel) ?_
        exact hret _ ls _ _ _ (fl9, fd9, fc9, le9, di9, co9, pn9, pd9, zk_up ct 3 ct9, zk_up pb 3 pb9, zk_up bw 3 bw9, zk_up rc 3 rc9, zk_up to 3 1, zk_up la 3 la9, zk_up se 3 se9, zk_up th 3 th9, zk_upF pl 3 pl9, zk_upF ln 3 ln9, zk_upF ds 3 ds9) dX4_piece_30 ⟨by rw [zA_way, zk_val (n := 4) (by decide) (by decide)]; exact (zk_pcn (Or.inl c_8)).symm, fun j hj he => by rw [(nI_eq (by omega) (by decide)).mp he.symm]; exact zk_up_eq _ _ _, zr_rows_up h6 hu⟩ hP hS
      · skip
        refine lv_iload_n hx hb dX4_piece_20 rfl (lv_at hl 3 rfl) ?_
        refine lv_aload hx hb dX4_piece_21 (lv_at hl 0 rfl) ?_
        refine va_get (D := D) (ci := 2) (v := .int (nI ct9)) (C := RX2) (T := TX2) (N := 11) hx hb hts ziX4_piece_2 hown hK hP 23 rfl rfl 3 (by decide) f105 (fun _ h9 => h9) rfl dX4_piece_23 ?_
        refine lv_icmp_lt (tgt := 31) hx hb dX4_piece_26 (by decide) (fun c_9 => ?_) (fun c_9 => ?_)
        · skip
          obtain ⟨ii, hii, hie⟩ := zk_ii c_8 c_9 (zr_row_ct hu h1)
          subst hie
          have hct := zr_row_ct hu h1
          refine lv_iload_n hx hb dX4_piece_31 rfl (lv_at hl 4 rfl) ?_
          by_cases hv0 : v_ = nI 0
          · subst hv0
            refine lv_tableIn (off := 28) (tgt := 60) hx hb dX4_piece_32 (by decide +kernel) (by decide +kernel) (by decide +kernel) (by decide) ?_
            refine lv_aload hx hb dX4_piece_60 (lv_at hl 0 rfl) ?_
            refine va_get (D := D) (ci := 2) (v := .ref (ra 3)) (C := RX2) (T := TX2) (N := 11) hx hb hts ziX4_piece_2 hown hK hP 23 rfl rfl 0 (by decide) f108 (fun _ h9 => h9) rfl dX4_piece_62 ?_
            refine lv_iload_n hx hb dX4_piece_65 rfl (lv_at hl 3 rfl) ?_
            refine zk_ild (v := pl9 ii) hx hb hK hP 24 0 (i := ii) (g := pl9) rfl rfl (by omega) (by decide) rfl dX4_piece_66 ?_
            exact hret _ ls _ _ _ (fl9, fd9, fc9, le9, di9, co9, pn9, pd9, zk_up ct 3 ct9, zk_up pb 3 pb9, zk_up bw 3 bw9, zk_up rc 3 rc9, zk_up to 3 1, zk_up la 3 la9, zk_up se 3 se9, zk_up th 3 th9, zk_upF pl 3 pl9, zk_upF ln 3 ln9, zk_upF ds 3 ds9) dX4_piece_67 ⟨by rw [zA_way, zk_val (n := 4) (by decide) (by decide)]; exact (zk_pc0 hii (by omega)).symm, fun j hj he => by rw [(nI_eq (by omega) (by decide)).mp he.symm]; exact zk_up_eq _ _ _, zr_rows_up h6 hu⟩ hP hS
          · skip
            have hz0 := hv0
            clear hv0
            by_cases hv0 : v_ = nI 1
            · subst hv0
              refine lv_tableIn (off := 36) (tgt := 68) hx hb dX4_piece_32 (by decide +kernel) (by decide +kernel) (by decide +kernel) (by decide) ?_
              refine lv_aload hx hb dX4_piece_68 (lv_at hl 0 rfl) ?_
              refine va_get (D := D) (ci := 2) (v := .ref (rb 3)) (C := RX2) (T := TX2) (N := 11) hx hb hts ziX4_piece_2 hown hK hP 23 rfl rfl 1 (by decide) f111 (fun _ h9 => h9) rfl dX4_piece_70 ?_
              refine lv_iload_n hx hb dX4_piece_73 rfl (lv_at hl 3 rfl) ?_
              refine zk_ild (v := ln9 ii) hx hb hK hP 25 0 (i := ii) (g := ln9) rfl rfl (by omega) (by decide) rfl dX4_piece_74 ?_
              exact hret _ ls _ _ _ (fl9, fd9, fc9, le9, di9, co9, pn9, pd9, zk_up ct 3 ct9, zk_up pb 3 pb9, zk_up bw 3 bw9, zk_up rc 3 rc9, zk_up to 3 1, zk_up la 3 la9, zk_up se 3 se9, zk_up th 3 th9, zk_upF pl 3 pl9, zk_upF ln 3 ln9, zk_upF ds 3 ds9) dX4_piece_75 ⟨by rw [zA_way, zk_val (n := 4) (by decide) (by decide)]; exact (zk_pc1 hii (by omega)).symm, fun j hj he => by rw [(nI_eq (by omega) (by decide)).mp he.symm]; exact zk_up_eq _ _ _, zr_rows_up h6 hu⟩ hP hS
            · skip
              have hz1 := hv0
              clear hv0
              by_cases hv0 : v_ = nI 2
              · subst hv0
                refine lv_tableIn (off := 44) (tgt := 76) hx hb dX4_piece_32 (by decide +kernel) (by decide +kernel) (by decide +kernel) (by decide) ?_
                refine lv_aload hx hb dX4_piece_76 (lv_at hl 0 rfl) ?_
                refine va_get (D := D) (ci := 2) (v := .ref (rd 3)) (C := RX2) (T := TX2) (N := 11) hx hb hts ziX4_piece_2 hown hK hP 23 rfl rfl 2 (by decide) f114 (fun _ h9 => h9) rfl dX4_piece_78 ?_
                refine lv_iload_n hx hb dX4_piece_81 rfl (lv_at hl 3 rfl) ?_
                refine zk_ild (v := ds9 ii) hx hb hK hP 26 0 (i := ii) (g := ds9) rfl rfl (by omega) (by decide) rfl dX4_piece_82 ?_
                exact hret _ ls _ _ _ (fl9, fd9, fc9, le9, di9, co9, pn9, pd9, zk_up ct 3 ct9, zk_up pb 3 pb9, zk_up bw 3 bw9, zk_up rc 3 rc9, zk_up to 3 1, zk_up la 3 la9, zk_up se 3 se9, zk_up th 3 th9, zk_upF pl 3 pl9, zk_upF ln 3 ln9, zk_upF ds 3 ds9) dX4_piece_83 ⟨by rw [zA_way, zk_val (n := 4) (by decide) (by decide)]; exact (zk_pc2 hii (by omega)).symm, fun j hj he => by rw [(nI_eq (by omega) (by decide)).mp he.symm]; exact zk_up_eq _ _ _, zr_rows_up h6 hu⟩ hP hS
              · skip
                refine lv_tableOut (tgt := 84) hx hb dX4_piece_32 (zk_out3 hz0 hz1 hv0) (by decide) ?_
                refine lv_bipush (v := (-2)) hx hb dX4_piece_84 (by decide +kernel) ?_
                exact hret _ ls _ _ _ (fl9, fd9, fc9, le9, di9, co9, pn9, pd9, zk_up ct 3 ct9, zk_up pb 3 pb9, zk_up bw 3 bw9, zk_up rc 3 rc9, zk_up to 3 1, zk_up la 3 la9, zk_up se 3 se9, zk_up th 3 th9, zk_upF pl 3 pl9, zk_upF ln 3 ln9, zk_upF ds 3 ds9) dX4_piece_86 ⟨by rw [zA_way, zk_val (n := 4) (by decide) (by decide)]; exact (zk_pc3 hii (by omega) hz0 hz1 hv0).symm, fun j hj he => by rw [(nI_eq (by omega) (by decide)).mp he.symm]; exact zk_up_eq _ _ _, zr_rows_up h6 hu⟩ hP hS
        · skip
          refine lv_iconst (v := (-1)) hx hb dX4_piece_29 (by decide +kernel) ?_
          exact hret _ ls _ _ _ (fl9, fd9, fc9, le9, di9, co9, pn9, pd9, zk_up ct 3 ct9, zk_up pb 3 pb9, zk_up bw 3 bw9, zk_up rc 3 rc9, zk_up to 3 1, zk_up la 3 la9, zk_up se 3 se9, zk_up th 3 th9, zk_upF pl 3 pl9, zk_upF ln 3 ln9, zk_upF ds 3 ds9) dX4_piece_30 ⟨by rw [zA_way, zk_val (n := 4) (by decide) (by decide)]; exact (zk_pcn (Or.inr (zk_nl c_9))).symm, fun j hj he => by rw [(nI_eq (by omega) (by decide)).mp he.symm]; exact zk_up_eq _ _ _, zr_rows_up h6 hu⟩ hP hS
  · skip
    have hno := zk_wz0 c_1
    refine lv_iconst (v := (-1)) hx hb dX4_piece_7 (by decide +kernel) ?_
    exact hret _ ls _ _ _ (fl, fd, fc, le, di, co, pn, pd, ct, pb, bw, rc, to, la, se, th, pl, ln, ds) dX4_piece_8 ⟨by rw [zA_way, zk_inv hno], fun j hj he => absurd hno (zk_wno hj he), h6⟩ hP hS
