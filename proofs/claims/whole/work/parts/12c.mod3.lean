def rmX5_bitsOf : Room := { frames := 4, cells := 0, slots := 0, locals := 93 }
set_option maxRecDepth 20000 in
theorem ziX5_bitsOf_5 : ∀ w ∈ wsX50, w ∈ wsX5_bitsOf := by decide +kernel
set_option maxHeartbeats 4000000 in
set_option maxRecDepth 100000 in
/-- bitsOf -/
theorem c_bitsOf (l : Launch) (D : va_G) (cI cZ cR : ClassId) (m_ : Nat) (tw : Nat) (sp : Nat) (dp : Nat) (mb : Nat) (sz : Nat) (ah : Nat) (mi : Nat) (mp : Nat) (m1 : Nat) (m2 : Nat) (m3 : Nat) (mc : Nat) (ml : Nat) (bl : Nat) (bd : Nat) (rp : Nat) (B : Nat → Nat) (im : Nat → Nat) (pc : Nat → Nat) (P1 : Nat → Nat) (P2 : Nat → Nat) (P3 : Nat → Nat) (C : Nat → Nat) (L : Nat → Nat) (w_ : Nat) (ag : Nat) (h0 : ah ≤ 60) (h1 : sz ≤ 300) (h2 : sp ≤ 300) (h3 : dp ≤ 64) (h4 : ∀ j, B j < 256) (h5 : zr_mrows (zr_v B ah) ah sz sp dp im pc P1 P2 P3) (h6 : w_ ≤ 3) (h7 : ag ≤ 1) : zk_Wi l yX5_bitsOf wsX5_bitsOf rmX5_bitsOf D (zk_t cI cZ cR) [.ref m_, .int (nI w_), .int (nI ag)] [(m_, .inr (5, [.int (nI tw), .int (nI sp), .int (nI dp), .ref mb, .int (nI sz), .int (nI ah), .ref mi, .ref mp, .ref m1, .ref m2, .ref m3, .ref mc, .ref ml, .int (nI bl), .int (nI bd), .int (nI rp)])), (mb, zk_a cI 360 B), (mi, zk_a cZ 4 im), (mp, zk_a cI 4 pc), (m1, zk_a cI 1200 P1), (m2, zk_a cI 1200 P2), (m3, zk_a cI 1200 P3), (mc, zk_a cI 301 C), (ml, zk_a cI 41 L)] (fun (r : Int32) (u : (Nat → Nat) × (Nat → Nat) × (Nat → Nat) × (Nat → Nat) × (Nat → Nat) × (Nat → Nat) × (Nat → Nat) × Nat × Nat × Nat) => match u with | (im2, pc2, Q1, Q2, Q3, C2, L2, bl2, bd2, rp2) => zr_mrows (zr_v B ah) ah sz sp dp im2 pc2 Q1 Q2 Q3 ∧ im2 w_ = 1 ∧ ∃ pb bw, zr_row w_ (zr_v B ah) ah sz sp dp (pc2 w_) pb bw rp2 (fun k => Q1 (300 * w_ + k)) (fun k => Q2 (300 * w_ + k)) (fun k => Q3 (300 * w_ + k)) ∧ r = nI (if ag = 1 then bw else pb)) (fun u => match u with | (im2, pc2, Q1, Q2, Q3, C2, L2, bl2, bd2, rp2) => [(m_, .inr (5, [.int (nI tw), .int (nI sp), .int (nI dp), .ref mb, .int (nI sz), .int (nI ah), .ref mi, .ref mp, .ref m1, .ref m2, .ref m3, .ref mc, .ref ml, .int (nI bl2), .int (nI bd2), .int (nI rp2)])), (mb, zk_a cI 360 B), (mi, zk_a cZ 4 im2), (mp, zk_a cI 4 pc2), (m1, zk_a cI 1200 Q1), (m2, zk_a cI 1200 Q2), (m3, zk_a cI 1200 Q3), (mc, zk_a cI 301 C2), (ml, zk_a cI 41 L2)]) := by
  refine zk_enterI RX5 cX5_bitsOf 10 (by decide) rfl rfl (Nat.le_of_ble_eq_true rfl) ?_
  intro p e s m args below meth c ls A Q hx hb hml hown hts hP hK hD hN hl hA hS hret
  have hl : lv_has ls 10 [(0, .ref m_), (1, .int (nI w_)), (2, .int (nI ag))] := hl
  have f17 := hts (.fieldLink RX5 17 "MatchFindersModel" "pieces" "[I") (by decide +kernel)
  have f23 := hts (.fieldLink RX5 23 "MatchFindersModel" "length" "[I") (by decide +kernel)
  have f26 := hts (.fieldLink RX5 26 "MatchFindersModel" "distance" "[I") (by decide +kernel)
  have f104 := hts (.fieldLink RX5 104 "MatchFindersModel" "repeats" "I") (by decide +kernel)
  refine lv_aload_n hx hb dX5_bitsOf_0 rfl (lv_at hl 0 rfl) ?_
  refine lv_iload_n hx hb dX5_bitsOf_1 rfl (lv_at hl 1 rfl) ?_
  refine zk_wrV (As := [.int (nI w_)]) (rest := []) ⟨hx, hb, hml, hown, hts⟩ hN (c_mmake l D cI cZ cR m_ tw sp dp mb sz ah mi mp m1 m2 m3 mc ml bl bd rp B im pc P1 P2 P3 C L w_ (by omega) (by omega) (by omega) (by omega) h4 h5 (by omega)) (cwV 1 hts gX5_bitsOf_X5_make rfl rfl rfl (by decide +kernel) ⟨Nat.le_of_ble_eq_true rfl, Nat.le_of_ble_eq_true rfl⟩) hK hP (zk_D hD rfl) hS hA [0, 1, 2, 3, 4, 5, 6, 7, 8] rfl (by decide) (fun _ => rfl) rfl rfl rfl rfl hl.1 rfl (Nat.le_of_ble_eq_true rfl) dX5_bitsOf_2 ⟨Nat.zero_le _, Nat.zero_le _⟩ (fun u H locs hu hP hS => ?_)
  obtain ⟨im9, pc9, R1, R2, R3, C9, L9, bl9, bd9⟩ := u
  have hu : zr_mrows (zr_v B ah) ah sz sp dp im9 pc9 R1 R2 R3 ∧ im9 w_ = 1 := hu
  have hP : va_P D vwCl [(m_, .inr (5, [.int (nI tw), .int (nI sp), .int (nI dp), .ref mb, .int (nI sz), .int (nI ah), .ref mi, .ref mp, .ref m1, .ref m2, .ref m3, .ref mc, .ref ml, .int (nI bl9), .int (nI bd9), .int (nI rp)])), (mb, zk_a cI 360 B), (mi, zk_a cZ 4 im9), (mp, zk_a cI 4 pc9), (m1, zk_a cI 1200 R1), (m2, zk_a cI 1200 R2), (m3, zk_a cI 1200 R3), (mc, zk_a cI 301 C9), (ml, zk_a cI 41 L9)] H := hP
  have him : im9 w_ = 1 := hu.2
  have hrw := (hu.1 w_ (by omega)).resolve_left (by omega)
  obtain ⟨-, sel, hok, hhd⟩ := hrw
  have hct : pc9 w_ ≤ 300 := by have h9 := zr_pcs_len (sel := sel) (sz := sz) sz 0; rw [hhd.1] at h9; omega
  refine lv_iconst (v := (nI 0)) hx hb dX5_bitsOf_5 (by decide +kernel) ?_
  refine lv_istore_n (lv' := [(3, .int (nI 0)), (0, .ref m_), (1, .int (nI w_)), (2, .int (nI ag))]) hx hb dX5_bitsOf_6 rfl hl (by decide) rfl (fun ls hl => ?_)
  refine lv_iconst (v := (nI 0)) hx hb dX5_bitsOf_7 (by decide +kernel) ?_
  refine lv_istore (lv' := [(4, .int (nI 0)), (3, .int (nI 0)), (0, .ref m_), (1, .int (nI w_)), (2, .int (nI ag))]) hx hb dX5_bitsOf_8 hl (by decide) rfl (fun ls hl => ?_)
  refine lv_iconst (v := (nI 0)) hx hb dX5_bitsOf_10 (by decide +kernel) ?_
  refine lv_istore (lv' := [(5, .int (nI 0)), (4, .int (nI 0)), (3, .int (nI 0)), (0, .ref m_), (1, .int (nI w_)), (2, .int (nI ag))]) hx hb dX5_bitsOf_11 hl (by decide) rfl (fun ls hl => ?_)
  refine lv_iconst (v := (nI 0)) hx hb dX5_bitsOf_13 (by decide +kernel) ?_
  refine lv_istore (lv' := [(6, .int (nI 0)), (5, .int (nI 0)), (4, .int (nI 0)), (3, .int (nI 0)), (0, .ref m_), (1, .int (nI w_)), (2, .int (nI ag))]) hx hb dX5_bitsOf_14 hl (by decide) rfl (fun ls hl => ?_)
  refine lv_aload_n hx hb dX5_bitsOf_16 rfl (lv_at hl 4 rfl) ?_
  refine lv_iconst (v := (nI 0)) hx hb dX5_bitsOf_17 (by decide +kernel) ?_
  refine va_put (D := D) (ci := 5) (v := .int (nI 0)) (ty := .int) (C := RX5) (T := TX5) (N := 16) hx hb hts ziX5_bitsOf_5 tyX5 tyX5_ok nmX5 hown hK hP (zk_D hD rfl) hS 0 rfl rfl 15 (by decide) f104 (fun _ h9 => h9) rfl (by decide +kernel) rfl rfl (Nat.le_of_ble_eq_true rfl) dX5_bitsOf_18 (fun H locs hP _ hS => ?_)
  have hP : va_P D vwCl [(m_, .inr (5, [.int (nI tw), .int (nI sp), .int (nI dp), .ref mb, .int (nI sz), .int (nI ah), .ref mi, .ref mp, .ref m1, .ref m2, .ref m3, .ref mc, .ref ml, .int (nI bl9), .int (nI bd9), .int (nI 0)])), (mb, zk_a cI 360 B), (mi, zk_a cZ 4 im9), (mp, zk_a cI 4 pc9), (m1, zk_a cI 1200 R1), (m2, zk_a cI 1200 R2), (m3, zk_a cI 1200 R3), (mc, zk_a cI 301 C9), (ml, zk_a cI 41 L9)] H := hP
  refine lv_sipush (v := (nI 300)) hx hb dX5_bitsOf_21 (by decide +kernel) ?_
  refine lv_iload_n hx hb dX5_bitsOf_24 rfl (lv_at hl 5 rfl) ?_
  refine zk_mul (v := 300 * w_) hx hb rfl dX5_bitsOf_25 ?_
  refine zk_top (v := nI (300 * w_ + 0)) rfl ?_
  refine lv_istore (lv' := [(7, .int (nI (300 * w_ + 0))), (6, .int (nI 0)), (5, .int (nI 0)), (4, .int (nI 0)), (3, .int (nI 0)), (0, .ref m_), (1, .int (nI w_)), (2, .int (nI ag))]) hx hb dX5_bitsOf_26 hl (by decide) rfl (fun ls hl => ?_)
  have L28 : ∀ (n : Nat) (i : Nat) (bi : Nat) (a1 : Nat) (b1 : Nat) (c1 : Nat) (rp1 : Nat) (pb1 : Nat) (bw1 : Nat) (ls : Array Slot) (H : Heap) (locs : List Loc), (i ≤ pc9 w_) → (zr_bits ((zr_pcs sel sz sz 0).take i) = (pb1, bw1, rp1, a1, b1, c1)) → ((ag = 1 ∧ bi = bw1) ∨ (ag ≠ 1 ∧ bi = pb1)) → (a1 ≤ 300) → (b1 ≤ 300) → (c1 ≤ 300) → (pc9 w_ - i) < n → va_P D vwCl [(m_, .inr (5, [.int (nI tw), .int (nI sp), .int (nI dp), .ref mb, .int (nI sz), .int (nI ah), .ref mi, .ref mp, .ref m1, .ref m2, .ref m3, .ref mc, .ref ml, .int (nI bl9), .int (nI bd9), .int (nI rp1)])), (mb, zk_a cI 360 B), (mi, zk_a cZ 4 im9), (mp, zk_a cI 4 pc9), (m1, zk_a cI 1200 R1), (m2, zk_a cI 1200 R2), (m3, zk_a cI 1200 R3), (mc, zk_a cI 301 C9), (ml, zk_a cI 41 L9)] H → va_S A s.heap H locs → lv_has ls 10 [(0, .ref m_), (1, .int (nI w_)), (2, .int (nI ag)), (3, .int (nI bi)), (4, .int (nI a1)), (5, .int (nI b1)), (6, .int (nI c1)), (7, .int (nI (300 * w_ + i)))] → W p l e rmX5_bitsOf s m args below meth c H locs 0 0 Q (F0 m 28 ls []) := by
    intro n
    induction n with
    | zero => intro i bi a1 b1 c1 rp1 pb1 bw1 ls H locs g28_0 g28_1 g28_2 g28_3 g28_4 g28_5 hm hP hS hl; exact absurd hm (by omega)
    | succ n ih28 =>
      intro i bi a1 b1 c1 rp1 pb1 bw1 ls H locs g28_0 g28_1 g28_2 g28_3 g28_4 g28_5 hm hP hS hl
      refine lv_iload hx hb dX5_bitsOf_28 (lv_at hl 7 rfl) ?_
      refine lv_sipush (v := (nI 300)) hx hb dX5_bitsOf_30 (by decide +kernel) ?_
      refine lv_iload_n hx hb dX5_bitsOf_33 rfl (lv_at hl 1 rfl) ?_
      refine zk_mul (v := 300 * w_) hx hb rfl dX5_bitsOf_34 ?_
      refine lv_aload_n hx hb dX5_bitsOf_35 rfl (lv_at hl 0 rfl) ?_
      refine va_get (D := D) (ci := 5) (v := .ref mp) (C := RX5) (T := TX5) (N := 16) hx hb hts ziX5_bitsOf_5 hown hK hP 0 rfl rfl 7 (by decide) f17 (fun _ h9 => h9) rfl dX5_bitsOf_36 ?_
      refine lv_iload_n hx hb dX5_bitsOf_39 rfl (lv_at hl 1 rfl) ?_
      refine zk_ild (v := pc9 w_) hx hb hK hP 3 0 (i := w_) (g := pc9) rfl rfl (by omega) (by decide) rfl dX5_bitsOf_40 ?_
      refine zk_add (v := (300 * w_) + (pc9 w_)) hx hb (rfl) dX5_bitsOf_41 ?_
      refine zk_icmp_ge (tgt := 210) hx hb (by omega) (by omega) dX5_bitsOf_42 (by decide) (fun c_1 => ?_) (fun c_1 => ?_)
      · skip
        refine lv_iload_n hx hb dX5_bitsOf_210 rfl (lv_at hl 3 rfl) ?_
        exact hret _ ls _ _ _ (im9, pc9, R1, R2, R3, C9, L9, bl9, bd9, rp1) dX5_bitsOf_211 ⟨hu.1, hu.2, pb1, bw1, ⟨sel, a1, b1, c1, hok, hhd, by rw [← g28_1, List.take_of_length_le (by rw [hhd.1]; omega)]⟩, by rcases g28_2 with ⟨h8, h9⟩ | ⟨h8, h9⟩; rw [if_pos h8, h9]; rw [if_neg h8, h9]⟩ hP hS
      · skip
        refine lv_aload_n hx hb dX5_bitsOf_45 rfl (lv_at hl 0 rfl) ?_
        refine va_get (D := D) (ci := 5) (v := .ref m3) (C := RX5) (T := TX5) (N := 16) hx hb hts ziX5_bitsOf_5 hown hK hP 0 rfl rfl 10 (by decide) f26 (fun _ h9 => h9) rfl dX5_bitsOf_46 ?_
        refine lv_iload hx hb dX5_bitsOf_49 (lv_at hl 7 rfl) ?_
        refine zk_ild (v := R3 (300 * w_ + i)) hx hb hK hP 6 0 (i := 300 * w_ + i) (g := R3) rfl rfl (by omega) (by decide) rfl dX5_bitsOf_51 ?_
        refine zk_nm (fun dd h_dd => ?_)
        have hx9 := hhd.2 i (by omega)
        have hxm := zr_pcs_mem h6 hok sz 0 _ (List.mem_of_getElem? hx9)
        obtain ⟨lx, hlx⟩ : ∃ z, z = R2 (300 * w_ + i) := ⟨_, rfl⟩
        have hxm : (lx = 1 ∧ dd = 0) ∨ (3 ≤ lx ∧ lx ≤ 40 ∧ 1 ≤ dd ∧ dd ≤ sp) := by rw [hlx, h_dd]; exact hxm
        have hx9 : (zr_pcs sel sz sz 0)[i]? = some (R1 (300 * w_ + i), lx, dd) := by rw [hlx, h_dd]; exact hx9
        refine lv_istore (lv' := [(8, .int (nI dd)), (0, .ref m_), (1, .int (nI w_)), (2, .int (nI ag)), (3, .int (nI bi)), (4, .int (nI a1)), (5, .int (nI b1)), (6, .int (nI c1)), (7, .int (nI (300 * w_ + i)))]) hx hb dX5_bitsOf_52 hl (by decide) rfl (fun ls hl => ?_)
        refine lv_iload hx hb dX5_bitsOf_54 (lv_at hl 0 rfl) ?_
        refine zk_if_ne (tgt := 65) hx hb (by omega) dX5_bitsOf_56 (by decide) (fun c_2 => ?_) (fun c_2 => ?_)
        · skip
          refine lv_iload hx hb dX5_bitsOf_65 (lv_at hl 0 rfl) ?_
          refine lv_iload hx hb dX5_bitsOf_67 (lv_at hl 5 rfl) ?_
          refine zk_icmp_eq (tgt := 86) hx hb (by omega) (by omega) dX5_bitsOf_69 (by decide) (fun c_3 => ?_) (fun c_3 => ?_)
          · skip
            refine lv_iconst (v := (nI 1)) hx hb dX5_bitsOf_86 (by decide +kernel) ?_
            refine lv_goto (tgt := 91) hx hb dX5_bitsOf_87 (by decide) ?_
            refine lv_istore (lv' := [(9, .int (nI 1)), (8, .int (nI dd)), (0, .ref m_), (1, .int (nI w_)), (2, .int (nI ag)), (3, .int (nI bi)), (4, .int (nI a1)), (5, .int (nI b1)), (6, .int (nI c1)), (7, .int (nI (300 * w_ + i)))]) hx hb dX5_bitsOf_91 hl (by decide) rfl (fun ls hl => ?_)
            refine lv_aload_n hx hb dX5_bitsOf_93 rfl (lv_at hl 2 rfl) ?_
            refine lv_dup hx hb dX5_bitsOf_94 rfl ?_
            refine va_get (D := D) (ci := 5) (v := .int (nI rp1)) (C := RX5) (T := TX5) (N := 16) hx hb hts ziX5_bitsOf_5 hown hK hP 0 rfl rfl 15 (by decide) f104 (fun _ h9 => h9) rfl dX5_bitsOf_95 ?_
            refine lv_iload hx hb dX5_bitsOf_98 (lv_at hl 0 rfl) ?_
            refine zk_if_eq (tgt := 107) hx hb (by omega) dX5_bitsOf_100 (by decide) (fun c_4 => absurd c_4 (by omega)) (fun c_4 => ?_)
            refine lv_iconst (v := (nI 1)) hx hb dX5_bitsOf_103 (by decide +kernel) ?_
            refine lv_goto (tgt := 108) hx hb dX5_bitsOf_104 (by decide) ?_
            refine zk_add (v := rp1 + 1) hx hb (rfl) dX5_bitsOf_108 ?_
            refine va_put (D := D) (ci := 5) (v := .int (nI (rp1 + 1))) (ty := .int) (C := RX5) (T := TX5) (N := 16) hx hb hts ziX5_bitsOf_5 tyX5 tyX5_ok nmX5 hown hK hP (zk_D hD rfl) hS 0 rfl rfl 15 (by decide) f104 (fun _ h9 => h9) rfl (by decide +kernel) rfl rfl (Nat.le_of_ble_eq_true rfl) dX5_bitsOf_109 (fun H locs hP _ hS => ?_)
            have hP : va_P D vwCl [(m_, .inr (5, [.int (nI tw), .int (nI sp), .int (nI dp), .ref mb, .int (nI sz), .int (nI ah), .ref mi, .ref mp, .ref m1, .ref m2, .ref m3, .ref mc, .ref ml, .int (nI bl9), .int (nI bd9), .int (nI (rp1 + 1))])), (mb, zk_a cI 360 B), (mi, zk_a cZ 4 im9), (mp, zk_a cI 4 pc9), (m1, zk_a cI 1200 R1), (m2, zk_a cI 1200 R2), (m3, zk_a cI 1200 R3), (mc, zk_a cI 301 C9), (ml, zk_a cI 41 L9)] H := hP
            refine lv_iload_n hx hb dX5_bitsOf_112 rfl (lv_at hl 5 rfl) ?_
            refine lv_iload hx hb dX5_bitsOf_113 (lv_at hl 0 rfl) ?_
            refine zk_if_eq (tgt := 139) hx hb (by omega) dX5_bitsOf_115 (by decide) (fun c_5 => absurd c_5 (by omega)) (fun c_5 => ?_)
            refine lv_iload_n hx hb dX5_bitsOf_118 rfl (lv_at hl 4 rfl) ?_
            refine zk_if_eq (tgt := 139) hx hb (by omega) dX5_bitsOf_119 (by decide) (fun c_6 => ?_) (fun c_6 => ?_)
            · skip
              refine lv_iconst (v := (nI 2)) hx hb dX5_bitsOf_139 (by decide +kernel) ?_
              refine lv_aload_n hx hb dX5_bitsOf_140 rfl (lv_at hl 2 rfl) ?_
              refine va_get (D := D) (ci := 5) (v := .ref m2) (C := RX5) (T := TX5) (N := 16) hx hb hts ziX5_bitsOf_5 hown hK hP 0 rfl rfl 9 (by decide) f23 (fun _ h9 => h9) rfl dX5_bitsOf_141 ?_
              refine lv_iload hx hb dX5_bitsOf_144 (lv_at hl 9 rfl) ?_
              refine zk_ild (v := R2 (300 * w_ + i)) hx hb hK hP 5 0 (i := 300 * w_ + i) (g := R2) rfl rfl (by omega) (by decide) rfl dX5_bitsOf_146 ?_
              refine zk_top (congrArg nI hlx.symm) ?_
              refine lv_iconst (v := (nI 2)) hx hb dX5_bitsOf_147 (by decide +kernel) ?_
              refine zk_sub (v := lx - 2) hx hb (by omega) dX5_bitsOf_148 ?_
              refine zk_rdS (As := [.int (nI (lx - 2))]) (rest := [.int (nI 2), .int (nI bi)]) ⟨hx, hb, hml, hown, hts⟩ hN (c_g l D cI cZ cR (lx - 2) (by omega)) (va_cwS 1 hts gX5_bitsOf_X5_g rfl rfl rfl (by decide +kernel) ⟨Nat.le_of_ble_eq_true rfl, Nat.le_of_ble_eq_true rfl⟩) hK hP (zk_D hD rfl) [] rfl (by decide) rfl hl.1 rfl (Nat.le_of_ble_eq_true rfl) dX5_bitsOf_149 ⟨Nat.zero_le _, Nat.zero_le _⟩ ?_
              refine zk_add (v := 2 + (zr_G (lx - 2))) hx hb (rfl) dX5_bitsOf_152 ?_
              refine lv_iload hx hb dX5_bitsOf_153 (lv_at hl 1 rfl) ?_
              refine zk_rdS (As := [.int (nI dd)]) (rest := [.int (nI (2 + (zr_G (lx - 2)))), .int (nI bi)]) ⟨hx, hb, hml, hown, hts⟩ hN (c_g l D cI cZ cR dd (by omega)) (va_cwS 1 hts gX5_bitsOf_X5_g rfl rfl rfl (by decide +kernel) ⟨Nat.le_of_ble_eq_true rfl, Nat.le_of_ble_eq_true rfl⟩) hK hP (zk_D hD rfl) [] rfl (by decide) rfl hl.1 rfl (Nat.le_of_ble_eq_true rfl) dX5_bitsOf_155 ⟨Nat.zero_le _, Nat.zero_le _⟩ ?_
              refine zk_add (v := (2 + (zr_G (lx - 2))) + (zr_G dd)) hx hb (rfl) dX5_bitsOf_158 ?_
              refine zk_add (v := bi + ((2 + (zr_G (lx - 2))) + (zr_G dd))) hx hb (rfl) dX5_bitsOf_159 ?_
              refine lv_istore_n (lv' := [(3, .int (nI (bi + ((2 + (zr_G (lx - 2))) + (zr_G dd))))), (9, .int (nI 1)), (8, .int (nI dd)), (0, .ref m_), (1, .int (nI w_)), (2, .int (nI ag)), (4, .int (nI a1)), (5, .int (nI b1)), (6, .int (nI c1)), (7, .int (nI (300 * w_ + i)))]) hx hb dX5_bitsOf_160 rfl hl (by decide) rfl (fun ls hl => ?_)
              refine lv_iload hx hb dX5_bitsOf_161 (lv_at hl 2 rfl) ?_
              refine lv_iload hx hb dX5_bitsOf_163 (lv_at hl 6 rfl) ?_
              refine zk_icmp_eq (tgt := 175) hx hb (by omega) (by omega) dX5_bitsOf_165 (by decide) (fun c_7 => ?_) (fun c_7 => absurd c_7 (by omega))
              refine lv_iload hx hb dX5_bitsOf_175 (lv_at hl 8 rfl) ?_
              refine lv_goto (tgt := 182) hx hb dX5_bitsOf_177 (by decide) ?_
              refine lv_istore (lv' := [(6, .int (nI c1)), (3, .int (nI (bi + ((2 + (zr_G (lx - 2))) + (zr_G dd))))), (9, .int (nI 1)), (8, .int (nI dd)), (0, .ref m_), (1, .int (nI w_)), (2, .int (nI ag)), (4, .int (nI a1)), (5, .int (nI b1)), (7, .int (nI (300 * w_ + i)))]) hx hb dX5_bitsOf_182 hl (by decide) rfl (fun ls hl => ?_)
              refine lv_iload hx hb dX5_bitsOf_184 (lv_at hl 3 rfl) ?_
              refine lv_iload hx hb dX5_bitsOf_186 (lv_at hl 7 rfl) ?_
              refine zk_icmp_ne (tgt := 196) hx hb (by omega) (by omega) dX5_bitsOf_188 (by decide) (fun c_8 => absurd c_8 (by omega)) (fun c_8 => ?_)
              refine lv_iload hx hb dX5_bitsOf_191 (lv_at hl 8 rfl) ?_
              refine lv_goto (tgt := 198) hx hb dX5_bitsOf_193 (by decide) ?_
              refine lv_istore (lv' := [(5, .int (nI b1)), (6, .int (nI c1)), (3, .int (nI (bi + ((2 + (zr_G (lx - 2))) + (zr_G dd))))), (9, .int (nI 1)), (8, .int (nI dd)), (0, .ref m_), (1, .int (nI w_)), (2, .int (nI ag)), (4, .int (nI a1)), (7, .int (nI (300 * w_ + i)))]) hx hb dX5_bitsOf_198 hl (by decide) rfl (fun ls hl => ?_)
              refine lv_iload hx hb dX5_bitsOf_200 (lv_at hl 4 rfl) ?_
              refine lv_istore (lv' := [(4, .int (nI dd)), (5, .int (nI b1)), (6, .int (nI c1)), (3, .int (nI (bi + ((2 + (zr_G (lx - 2))) + (zr_G dd))))), (9, .int (nI 1)), (8, .int (nI dd)), (0, .ref m_), (1, .int (nI w_)), (2, .int (nI ag)), (7, .int (nI (300 * w_ + i)))]) hx hb dX5_bitsOf_202 hl (by decide) rfl (fun ls hl => ?_)
              refine lv_iinc (v := (nI (300 * w_ + (i + 1)))) (lv' := [(7, .int (nI (300 * w_ + (i + 1)))), (4, .int (nI dd)), (5, .int (nI b1)), (6, .int (nI c1)), (3, .int (nI (bi + ((2 + (zr_G (lx - 2))) + (zr_G dd))))), (9, .int (nI 1)), (8, .int (nI dd)), (0, .ref m_), (1, .int (nI w_)), (2, .int (nI ag))]) hx hb dX5_bitsOf_204 hl (k := 9) rfl (by rw [show Int32.ofInt 1 = (1 : Int32) from rfl, nI_1]; rfl) (by decide) rfl (fun ls hl => ?_)
              refine lv_goto (tgt := 28) hx hb dX5_bitsOf_207 (by decide) ?_
              exact ih28 (i + 1) (bi + ((2 + (zr_G (lx - 2))) + (zr_G dd))) dd b1 c1 (rp1 + 1) (pb1 + (2 + zr_G (lx - 2) + zr_G dd)) (bw1 + (4 + zr_G (lx - 2))) ls _ _ (by omega) (by rw [zr_take_s hx9]; exact zr_bits_push g28_1 (by rw [zr_pc, if_neg (by omega), zr_cm, if_pos (Or.inl c_3), zr_rem, if_pos c_3, c_3])) (by omega) (by omega) (by omega) (by omega) (by omega) hP hS (lv_sub hl [7, 8, 9, 4, 1, 2, 3, 0] rfl)
            · skip
              refine lv_iconst (v := (nI 4)) hx hb dX5_bitsOf_122 (by decide +kernel) ?_
              refine lv_aload_n hx hb dX5_bitsOf_123 rfl (lv_at hl 2 rfl) ?_
              refine va_get (D := D) (ci := 5) (v := .ref m2) (C := RX5) (T := TX5) (N := 16) hx hb hts ziX5_bitsOf_5 hown hK hP 0 rfl rfl 9 (by decide) f23 (fun _ h9 => h9) rfl dX5_bitsOf_124 ?_
              refine lv_iload hx hb dX5_bitsOf_127 (lv_at hl 9 rfl) ?_
              refine zk_ild (v := R2 (300 * w_ + i)) hx hb hK hP 5 0 (i := 300 * w_ + i) (g := R2) rfl rfl (by omega) (by decide) rfl dX5_bitsOf_129 ?_
              refine zk_top (congrArg nI hlx.symm) ?_
              refine lv_iconst (v := (nI 2)) hx hb dX5_bitsOf_130 (by decide +kernel) ?_
              refine zk_sub (v := lx - 2) hx hb (by omega) dX5_bitsOf_131 ?_
              refine zk_rdS (As := [.int (nI (lx - 2))]) (rest := [.int (nI 4), .int (nI bi)]) ⟨hx, hb, hml, hown, hts⟩ hN (c_g l D cI cZ cR (lx - 2) (by omega)) (va_cwS 1 hts gX5_bitsOf_X5_g rfl rfl rfl (by decide +kernel) ⟨Nat.le_of_ble_eq_true rfl, Nat.le_of_ble_eq_true rfl⟩) hK hP (zk_D hD rfl) [] rfl (by decide) rfl hl.1 rfl (Nat.le_of_ble_eq_true rfl) dX5_bitsOf_132 ⟨Nat.zero_le _, Nat.zero_le _⟩ ?_
              refine zk_add (v := 4 + (zr_G (lx - 2))) hx hb (rfl) dX5_bitsOf_135 ?_
              refine lv_goto (tgt := 159) hx hb dX5_bitsOf_136 (by decide) ?_
              refine zk_add (v := bi + (4 + (zr_G (lx - 2)))) hx hb (rfl) dX5_bitsOf_159 ?_
              refine lv_istore_n (lv' := [(3, .int (nI (bi + (4 + (zr_G (lx - 2)))))), (9, .int (nI 1)), (8, .int (nI dd)), (0, .ref m_), (1, .int (nI w_)), (2, .int (nI ag)), (4, .int (nI a1)), (5, .int (nI b1)), (6, .int (nI c1)), (7, .int (nI (300 * w_ + i)))]) hx hb dX5_bitsOf_160 rfl hl (by decide) rfl (fun ls hl => ?_)
              refine lv_iload hx hb dX5_bitsOf_161 (lv_at hl 2 rfl) ?_
              refine lv_iload hx hb dX5_bitsOf_163 (lv_at hl 6 rfl) ?_
              refine zk_icmp_eq (tgt := 175) hx hb (by omega) (by omega) dX5_bitsOf_165 (by decide) (fun c_9 => ?_) (fun c_9 => absurd c_9 (by omega))
              refine lv_iload hx hb dX5_bitsOf_175 (lv_at hl 8 rfl) ?_
              refine lv_goto (tgt := 182) hx hb dX5_bitsOf_177 (by decide) ?_
              refine lv_istore (lv' := [(6, .int (nI c1)), (3, .int (nI (bi + (4 + (zr_G (lx - 2)))))), (9, .int (nI 1)), (8, .int (nI dd)), (0, .ref m_), (1, .int (nI w_)), (2, .int (nI ag)), (4, .int (nI a1)), (5, .int (nI b1)), (7, .int (nI (300 * w_ + i)))]) hx hb dX5_bitsOf_182 hl (by decide) rfl (fun ls hl => ?_)
              refine lv_iload hx hb dX5_bitsOf_184 (lv_at hl 3 rfl) ?_
              refine lv_iload hx hb dX5_bitsOf_186 (lv_at hl 7 rfl) ?_
              refine zk_icmp_ne (tgt := 196) hx hb (by omega) (by omega) dX5_bitsOf_188 (by decide) (fun c_10 => absurd c_10 (by omega)) (fun c_10 => ?_)
              refine lv_iload hx hb dX5_bitsOf_191 (lv_at hl 8 rfl) ?_
              refine lv_goto (tgt := 198) hx hb dX5_bitsOf_193 (by decide) ?_
              refine lv_istore (lv' := [(5, .int (nI b1)), (6, .int (nI c1)), (3, .int (nI (bi + (4 + (zr_G (lx - 2)))))), (9, .int (nI 1)), (8, .int (nI dd)), (0, .ref m_), (1, .int (nI w_)), (2, .int (nI ag)), (4, .int (nI a1)), (7, .int (nI (300 * w_ + i)))]) hx hb dX5_bitsOf_198 hl (by decide) rfl (fun ls hl => ?_)
              refine lv_iload hx hb dX5_bitsOf_200 (lv_at hl 4 rfl) ?_
              refine lv_istore (lv' := [(4, .int (nI dd)), (5, .int (nI b1)), (6, .int (nI c1)), (3, .int (nI (bi + (4 + (zr_G (lx - 2)))))), (9, .int (nI 1)), (8, .int (nI dd)), (0, .ref m_), (1, .int (nI w_)), (2, .int (nI ag)), (7, .int (nI (300 * w_ + i)))]) hx hb dX5_bitsOf_202 hl (by decide) rfl (fun ls hl => ?_)
              refine lv_iinc (v := (nI (300 * w_ + (i + 1)))) (lv' := [(7, .int (nI (300 * w_ + (i + 1)))), (4, .int (nI dd)), (5, .int (nI b1)), (6, .int (nI c1)), (3, .int (nI (bi + (4 + (zr_G (lx - 2)))))), (9, .int (nI 1)), (8, .int (nI dd)), (0, .ref m_), (1, .int (nI w_)), (2, .int (nI ag))]) hx hb dX5_bitsOf_204 hl (k := 9) rfl (by rw [show Int32.ofInt 1 = (1 : Int32) from rfl, nI_1]; rfl) (by decide) rfl (fun ls hl => ?_)
              refine lv_goto (tgt := 28) hx hb dX5_bitsOf_207 (by decide) ?_
              exact ih28 (i + 1) (bi + (4 + (zr_G (lx - 2)))) dd b1 c1 (rp1 + 1) (pb1 + (2 + zr_G (lx - 2) + zr_G dd)) (bw1 + (4 + zr_G (lx - 2))) ls _ _ (by omega) (by rw [zr_take_s hx9]; exact zr_bits_push g28_1 (by rw [zr_pc, if_neg (by omega), zr_cm, if_pos (Or.inl c_3), zr_rem, if_pos c_3, c_3])) (by omega) (by omega) (by omega) (by omega) (by omega) hP hS (lv_sub hl [7, 8, 9, 4, 1, 2, 3, 0] rfl)
          · skip
            refine lv_iload hx hb dX5_bitsOf_72 (lv_at hl 0 rfl) ?_
            refine lv_iload hx hb dX5_bitsOf_74 (lv_at hl 6 rfl) ?_
            refine zk_icmp_eq (tgt := 86) hx hb (by omega) (by omega) dX5_bitsOf_76 (by decide) (fun c_11 => ?_) (fun c_11 => ?_)
            · skip
              refine lv_iconst (v := (nI 1)) hx hb dX5_bitsOf_86 (by decide +kernel) ?_
              refine lv_goto (tgt := 91) hx hb dX5_bitsOf_87 (by decide) ?_
              refine lv_istore (lv' := [(9, .int (nI 1)), (8, .int (nI dd)), (0, .ref m_), (1, .int (nI w_)), (2, .int (nI ag)), (3, .int (nI bi)), (4, .int (nI a1)), (5, .int (nI b1)), (6, .int (nI c1)), (7, .int (nI (300 * w_ + i)))]) hx hb dX5_bitsOf_91 hl (by decide) rfl (fun ls hl => ?_)
              refine lv_aload_n hx hb dX5_bitsOf_93 rfl (lv_at hl 2 rfl) ?_
              refine lv_dup hx hb dX5_bitsOf_94 rfl ?_
              refine va_get (D := D) (ci := 5) (v := .int (nI rp1)) (C := RX5) (T := TX5) (N := 16) hx hb hts ziX5_bitsOf_5 hown hK hP 0 rfl rfl 15 (by decide) f104 (fun _ h9 => h9) rfl dX5_bitsOf_95 ?_
              refine lv_iload hx hb dX5_bitsOf_98 (lv_at hl 0 rfl) ?_
              refine zk_if_eq (tgt := 107) hx hb (by omega) dX5_bitsOf_100 (by decide) (fun c_12 => absurd c_12 (by omega)) (fun c_12 => ?_)
              refine lv_iconst (v := (nI 1)) hx hb dX5_bitsOf_103 (by decide +kernel) ?_
              refine lv_goto (tgt := 108) hx hb dX5_bitsOf_104 (by decide) ?_
              refine zk_add (v := rp1 + 1) hx hb (rfl) dX5_bitsOf_108 ?_
              refine va_put (D := D) (ci := 5) (v := .int (nI (rp1 + 1))) (ty := .int) (C := RX5) (T := TX5) (N := 16) hx hb hts ziX5_bitsOf_5 tyX5 tyX5_ok nmX5 hown hK hP (zk_D hD rfl) hS 0 rfl rfl 15 (by decide) f104 (fun _ h9 => h9) rfl (by decide +kernel) rfl rfl (Nat.le_of_ble_eq_true rfl) dX5_bitsOf_109 (fun H locs hP _ hS => ?_)
              have hP : va_P D vwCl [(m_, .inr (5, [.int (nI tw), .int (nI sp), .int (nI dp), .ref mb, .int (nI sz), .int (nI ah), .ref mi, .ref mp, .ref m1, .ref m2, .ref m3, .ref mc, .ref ml, .int (nI bl9), .int (nI bd9), .int (nI (rp1 + 1))])), (mb, zk_a cI 360 B), (mi, zk_a cZ 4 im9), (mp, zk_a cI 4 pc9), (m1, zk_a cI 1200 R1), (m2, zk_a cI 1200 R2), (m3, zk_a cI 1200 R3), (mc, zk_a cI 301 C9), (ml, zk_a cI 41 L9)] H := hP
              refine lv_iload_n hx hb dX5_bitsOf_112 rfl (lv_at hl 5 rfl) ?_
              refine lv_iload hx hb dX5_bitsOf_113 (lv_at hl 0 rfl) ?_
              refine zk_if_eq (tgt := 139) hx hb (by omega) dX5_bitsOf_115 (by decide) (fun c_13 => absurd c_13 (by omega)) (fun c_13 => ?_)
              refine lv_iload_n hx hb dX5_bitsOf_118 rfl (lv_at hl 4 rfl) ?_
              refine zk_if_eq (tgt := 139) hx hb (by omega) dX5_bitsOf_119 (by decide) (fun c_14 => ?_) (fun c_14 => ?_)
              · skip
                refine lv_iconst (v := (nI 2)) hx hb dX5_bitsOf_139 (by decide +kernel) ?_
                refine lv_aload_n hx hb dX5_bitsOf_140 rfl (lv_at hl 2 rfl) ?_
                refine va_get (D := D) (ci := 5) (v := .ref m2) (C := RX5) (T := TX5) (N := 16) hx hb hts ziX5_bitsOf_5 hown hK hP 0 rfl rfl 9 (by decide) f23 (fun _ h9 => h9) rfl dX5_bitsOf_141 ?_
                refine lv_iload hx hb dX5_bitsOf_144 (lv_at hl 9 rfl) ?_
                refine zk_ild (v := R2 (300 * w_ + i)) hx hb hK hP 5 0 (i := 300 * w_ + i) (g := R2) rfl rfl (by omega) (by decide) rfl dX5_bitsOf_146 ?_
                refine zk_top (congrArg nI hlx.symm) ?_
                refine lv_iconst (v := (nI 2)) hx hb dX5_bitsOf_147 (by decide +kernel) ?_
                refine zk_sub (v := lx - 2) hx hb (by omega) dX5_bitsOf_148 ?_
                refine zk_rdS (As := [.int (nI (lx - 2))]) (rest := [.int (nI 2), .int (nI bi)]) ⟨hx, hb, hml, hown, hts⟩ hN (c_g l D cI cZ cR (lx - 2) (by omega)) (va_cwS 1 hts gX5_bitsOf_X5_g rfl rfl rfl (by decide +kernel) ⟨Nat.le_of_ble_eq_true rfl, Nat.le_of_ble_eq_true rfl⟩) hK hP (zk_D hD rfl) [] rfl (by decide) rfl hl.1 rfl (Nat.le_of_ble_eq_true rfl) dX5_bitsOf_149 ⟨Nat.zero_le _, Nat.zero_le _⟩ ?_
                refine zk_add (v := 2 + (zr_G (lx - 2))) hx hb (rfl) dX5_bitsOf_152 ?_
                refine lv_iload hx hb dX5_bitsOf_153 (lv_at hl 1 rfl) ?_
                refine zk_rdS (As := [.int (nI dd)]) (rest := [.int (nI (2 + (zr_G (lx - 2)))), .int (nI bi)]) ⟨hx, hb, hml, hown, hts⟩ hN (c_g l D cI cZ cR dd (by omega)) (va_cwS 1 hts gX5_bitsOf_X5_g rfl rfl rfl (by decide +kernel) ⟨Nat.le_of_ble_eq_true rfl, Nat.le_of_ble_eq_true rfl⟩) hK hP (zk_D hD rfl) [] rfl (by decide) rfl hl.1 rfl (Nat.le_of_ble_eq_true rfl) dX5_bitsOf_155 ⟨Nat.zero_le _, Nat.zero_le _⟩ ?_
                refine zk_add (v := (2 + (zr_G (lx - 2))) + (zr_G dd)) hx hb (rfl) dX5_bitsOf_158 ?_
                refine zk_add (v := bi + ((2 + (zr_G (lx - 2))) + (zr_G dd))) hx hb (rfl) dX5_bitsOf_159 ?_
                refine lv_istore_n (lv' := [(3, .int (nI (bi + ((2 + (zr_G (lx - 2))) + (zr_G dd))))), (9, .int (nI 1)), (8, .int (nI dd)), (0, .ref m_), (1, .int (nI w_)), (2, .int (nI ag)), (4, .int (nI a1)), (5, .int (nI b1)), (6, .int (nI c1)), (7, .int (nI (300 * w_ + i)))]) hx hb dX5_bitsOf_160 rfl hl (by decide) rfl (fun ls hl => ?_)
                refine lv_iload hx hb dX5_bitsOf_161 (lv_at hl 2 rfl) ?_
                refine lv_iload hx hb dX5_bitsOf_163 (lv_at hl 6 rfl) ?_
                refine zk_icmp_eq (tgt := 175) hx hb (by omega) (by omega) dX5_bitsOf_165 (by decide) (fun c_15 => absurd c_15 (by omega)) (fun c_15 => ?_)
                refine lv_iload hx hb dX5_bitsOf_168 (lv_at hl 2 rfl) ?_
                refine lv_iload hx hb dX5_bitsOf_170 (lv_at hl 7 rfl) ?_
                refine zk_icmp_ne (tgt := 180) hx hb (by omega) (by omega) dX5_bitsOf_172 (by decide) (fun c_16 => absurd c_16 (by omega)) (fun c_16 => ?_)
                refine lv_iload hx hb dX5_bitsOf_175 (lv_at hl 8 rfl) ?_
                refine lv_goto (tgt := 182) hx hb dX5_bitsOf_177 (by decide) ?_
                refine lv_istore (lv' := [(6, .int (nI c1)), (3, .int (nI (bi + ((2 + (zr_G (lx - 2))) + (zr_G dd))))), (9, .int (nI 1)), (8, .int (nI dd)), (0, .ref m_), (1, .int (nI w_)), (2, .int (nI ag)), (4, .int (nI a1)), (5, .int (nI b1)), (7, .int (nI (300 * w_ + i)))]) hx hb dX5_bitsOf_182 hl (by decide) rfl (fun ls hl => ?_)
                refine lv_iload hx hb dX5_bitsOf_184 (lv_at hl 3 rfl) ?_
                refine lv_iload hx hb dX5_bitsOf_186 (lv_at hl 7 rfl) ?_
                refine zk_icmp_ne (tgt := 196) hx hb (by omega) (by omega) dX5_bitsOf_188 (by decide) (fun c_17 => ?_) (fun c_17 => absurd c_17 (by omega))
                refine lv_iload hx hb dX5_bitsOf_196 (lv_at hl 7 rfl) ?_
                refine lv_istore (lv' := [(5, .int (nI a1)), (6, .int (nI c1)), (3, .int (nI (bi + ((2 + (zr_G (lx - 2))) + (zr_G dd))))), (9, .int (nI 1)), (8, .int (nI dd)), (0, .ref m_), (1, .int (nI w_)), (2, .int (nI ag)), (4, .int (nI a1)), (7, .int (nI (300 * w_ + i)))]) hx hb dX5_bitsOf_198 hl (by decide) rfl (fun ls hl => ?_)
                refine lv_iload hx hb dX5_bitsOf_200 (lv_at hl 4 rfl) ?_
                refine lv_istore (lv' := [(4, .int (nI dd)), (5, .int (nI a1)), (6, .int (nI c1)), (3, .int (nI (bi + ((2 + (zr_G (lx - 2))) + (zr_G dd))))), (9, .int (nI 1)), (8, .int (nI dd)), (0, .ref m_), (1, .int (nI w_)), (2, .int (nI ag)), (7, .int (nI (300 * w_ + i)))]) hx hb dX5_bitsOf_202 hl (by decide) rfl (fun ls hl => ?_)
                refine lv_iinc (v := (nI (300 * w_ + (i + 1)))) (lv' := [(7, .int (nI (300 * w_ + (i + 1)))), (4, .int (nI dd)), (5, .int (nI a1)), (6, .int (nI c1)), (3, .int (nI (bi + ((2 + (zr_G (lx - 2))) + (zr_G dd))))), (9, .int (nI 1)), (8, .int (nI dd)), (0, .ref m_), (1, .int (nI w_)), (2, .int (nI ag))]) hx hb dX5_bitsOf_204 hl (k := 9) rfl (by rw [show Int32.ofInt 1 = (1 : Int32) from rfl, nI_1]; rfl) (by decide) rfl (fun ls hl => ?_)
                refine lv_goto (tgt := 28) hx hb dX5_bitsOf_207 (by decide) ?_
                exact ih28 (i + 1) (bi + ((2 + (zr_G (lx - 2))) + (zr_G dd))) dd a1 c1 (rp1 + 1) (pb1 + (2 + zr_G (lx - 2) + zr_G dd)) (bw1 + (4 + zr_G (lx - 2))) ls _ _ (by omega) (by rw [zr_take_s hx9]; exact zr_bits_push g28_1 (by rw [zr_pc, if_neg (by omega), zr_cm, if_pos (Or.inr (Or.inl c_11)), zr_rem, if_neg c_3, if_pos c_11])) (by omega) (by omega) (by omega) (by omega) (by omega) hP hS (lv_sub hl [7, 8, 9, 4, 1, 2, 3, 0] rfl)
              · skip
                refine lv_iconst (v := (nI 4)) hx hb dX5_bitsOf_122 (by decide +kernel) ?_
                refine lv_aload_n hx hb dX5_bitsOf_123 rfl (lv_at hl 2 rfl) ?_
                refine va_get (D := D) (ci := 5) (v := .ref m2) (C := RX5) (T := TX5) (N := 16) hx hb hts ziX5_bitsOf_5 hown hK hP 0 rfl rfl 9 (by decide) f23 (fun _ h9 => h9) rfl dX5_bitsOf_124 ?_
                refine lv_iload hx hb dX5_bitsOf_127 (lv_at hl 9 rfl) ?_
                refine zk_ild (v := R2 (300 * w_ + i)) hx hb hK hP 5 0 (i := 300 * w_ + i) (g := R2) rfl rfl (by omega) (by decide) rfl dX5_bitsOf_129 ?_
                refine zk_top (congrArg nI hlx.symm) ?_
                refine lv_iconst (v := (nI 2)) hx hb dX5_bitsOf_130 (by decide +kernel) ?_
                refine zk_sub (v := lx - 2) hx hb (by omega) dX5_bitsOf_131 ?_
                refine zk_rdS (As := [.int (nI (lx - 2))]) (rest := [.int (nI 4), .int (nI bi)]) ⟨hx, hb, hml, hown, hts⟩ hN (c_g l D cI cZ cR (lx - 2) (by omega)) (va_cwS 1 hts gX5_bitsOf_X5_g rfl rfl rfl (by decide +kernel) ⟨Nat.le_of_ble_eq_true rfl, Nat.le_of_ble_eq_true rfl⟩) hK hP (zk_D hD rfl) [] rfl (by decide) rfl hl.1 rfl (Nat.le_of_ble_eq_true rfl) dX5_bitsOf_132 ⟨Nat.zero_le _, Nat.zero_le _⟩ ?_
                refine zk_add (v := 4 + (zr_G (lx - 2))) hx hb (rfl) dX5_bitsOf_135 ?_
                refine lv_goto (tgt := 159) hx hb dX5_bitsOf_136 (by decide) ?_
                refine zk_add (v := bi + (4 + (zr_G (lx - 2)))) hx hb (rfl) dX5_bitsOf_159 ?_
                refine lv_istore_n (lv' := [(3, .int (nI (bi + (4 + (zr_G (lx - 2)))))), (9, .int (nI 1)), (8, .int (nI dd)), (0, .ref m_), (1, .int (nI w_)), (2, .int (nI ag)), (4, .int (nI a1)), (5, .int (nI b1)), (6, .int (nI c1)), (7, .int (nI (300 * w_ + i)))]) hx hb dX5_bitsOf_160 rfl hl (by decide) rfl (fun ls hl => ?_)
                refine lv_iload hx hb dX5_bitsOf_161 (lv_at hl 2 rfl) ?_
                refine lv_iload hx hb dX5_bitsOf_163 (lv_at hl 6 rfl) ?_
                refine zk_icmp_eq (tgt := 175) hx hb (by omega) (by omega) dX5_bitsOf_165 (by decide) (fun c_18 => absurd c_18 (by omega)) (fun c_18 => ?_)
                refine lv_iload hx hb dX5_bitsOf_168 (lv_at hl 2 rfl) ?_
                refine lv_iload hx hb dX5_bitsOf_170 (lv_at hl 7 rfl) ?_
                refine zk_icmp_ne (tgt := 180) hx hb (by omega) (by omega) dX5_bitsOf_172 (by decide) (fun c_19 => absurd c_19 (by omega)) (fun c_19 => ?_)
                refine lv_iload hx hb dX5_bitsOf_175 (lv_at hl 8 rfl) ?_
                refine lv_goto (tgt := 182) hx hb dX5_bitsOf_177 (by decide) ?_
                refine lv_istore (lv' := [(6, .int (nI c1)), (3, .int (nI (bi + (4 + (zr_G (lx - 2)))))), (9, .int (nI 1)), (8, .int (nI dd)), (0, .ref m_), (1, .int (nI w_)), (2, .int (nI ag)), (4, .int (nI a1)), (5, .int (nI b1)), (7, .int (nI (300 * w_ + i)))]) hx hb dX5_bitsOf_182 hl (by decide) rfl (fun ls hl => ?_)
                refine lv_iload hx hb dX5_bitsOf_184 (lv_at hl 3 rfl) ?_
                refine lv_iload hx hb dX5_bitsOf_186 (lv_at hl 7 rfl) ?_
                refine zk_icmp_ne (tgt := 196) hx hb (by omega) (by omega) dX5_bitsOf_188 (by decide) (fun c_20 => ?_) (fun c_20 => absurd c_20 (by omega))
                refine lv_iload hx hb dX5_bitsOf_196 (lv_at hl 7 rfl) ?_
                refine lv_istore (lv' := [(5, .int (nI a1)), (6, .int (nI c1)), (3, .int (nI (bi + (4 + (zr_G (lx - 2)))))), (9, .int (nI 1)), (8, .int (nI dd)), (0, .ref m_), (1, .int (nI w_)), (2, .int (nI ag)), (4, .int (nI a1)), (7, .int (nI (300 * w_ + i)))]) hx hb dX5_bitsOf_198 hl (by decide) rfl (fun ls hl => ?_)
                refine lv_iload hx hb dX5_bitsOf_200 (lv_at hl 4 rfl) ?_
                refine lv_istore (lv' := [(4, .int (nI dd)), (5, .int (nI a1)), (6, .int (nI c1)), (3, .int (nI (bi + (4 + (zr_G (lx - 2)))))), (9, .int (nI 1)), (8, .int (nI dd)), (0, .ref m_), (1, .int (nI w_)), (2, .int (nI ag)), (7, .int (nI (300 * w_ + i)))]) hx hb dX5_bitsOf_202 hl (by decide) rfl (fun ls hl => ?_)
                refine lv_iinc (v := (nI (300 * w_ + (i + 1)))) (lv' := [(7, .int (nI (300 * w_ + (i + 1)))), (4, .int (nI dd)), (5, .int (nI a1)), (6, .int (nI c1)), (3, .int (nI (bi + (4 + (zr_G (lx - 2)))))), (9, .int (nI 1)), (8, .int (nI dd)), (0, .ref m_), (1, .int (nI w_)), (2, .int (nI ag))]) hx hb dX5_bitsOf_204 hl (k := 9) rfl (by rw [show Int32.ofInt 1 = (1 : Int32) from rfl, nI_1]; rfl) (by decide) rfl (fun ls hl => ?_)
                refine lv_goto (tgt := 28) hx hb dX5_bitsOf_207 (by decide) ?_
                exact ih28 (i + 1) (bi + (4 + (zr_G (lx - 2)))) dd a1 c1 (rp1 + 1) (pb1 + (2 + zr_G (lx - 2) + zr_G dd)) (bw1 + (4 + zr_G (lx - 2))) ls _ _ (by omega) (by rw [zr_take_s hx9]; exact zr_bits_push g28_1 (by rw [zr_pc, if_neg (by omega), zr_cm, if_pos (Or.inr (Or.inl c_11)), zr_rem, if_neg c_3, if_pos c_11])) (by omega) (by omega) (by omega) (by omega) (by omega) hP hS (lv_sub hl [7, 8, 9, 4, 1, 2, 3, 0] rfl)
            · skip
              refine lv_iload hx hb dX5_bitsOf_79 (lv_at hl 0 rfl) ?_
              refine lv_iload hx hb dX5_bitsOf_81 (lv_at hl 7 rfl) ?_
              refine zk_icmp_ne (tgt := 90) hx hb (by omega) (by omega) dX5_bitsOf_83 (by decide) (fun c_21 => ?_) (fun c_21 => ?_)
              · skip
                refine lv_iconst (v := (nI 0)) hx hb dX5_bitsOf_90 (by decide +kernel) ?_
                refine lv_istore (lv' := [(9, .int (nI 0)), (8, .int (nI dd)), (0, .ref m_), (1, .int (nI w_)), (2, .int (nI ag)), (3, .int (nI bi)), (4, .int (nI a1)), (5, .int (nI b1)), (6, .int (nI c1)), (7, .int (nI (300 * w_ + i)))]) hx hb dX5_bitsOf_91 hl (by decide) rfl (fun ls hl => ?_)
                refine lv_aload_n hx hb dX5_bitsOf_93 rfl (lv_at hl 2 rfl) ?_
                refine lv_dup hx hb dX5_bitsOf_94 rfl ?_
                refine va_get (D := D) (ci := 5) (v := .int (nI rp1)) (C := RX5) (T := TX5) (N := 16) hx hb hts ziX5_bitsOf_5 hown hK hP 0 rfl rfl 15 (by decide) f104 (fun _ h9 => h9) rfl dX5_bitsOf_95 ?_
                refine lv_iload hx hb dX5_bitsOf_98 (lv_at hl 0 rfl) ?_
                refine zk_if_eq (tgt := 107) hx hb (by omega) dX5_bitsOf_100 (by decide) (fun c_22 => ?_) (fun c_22 => absurd c_22 (by omega))
                refine lv_iconst (v := (nI 0)) hx hb dX5_bitsOf_107 (by decide +kernel) ?_
                refine zk_add (v := rp1) hx hb (by omega) dX5_bitsOf_108 ?_
                refine va_put (D := D) (ci := 5) (v := .int (nI rp1)) (ty := .int) (C := RX5) (T := TX5) (N := 16) hx hb hts ziX5_bitsOf_5 tyX5 tyX5_ok nmX5 hown hK hP (zk_D hD rfl) hS 0 rfl rfl 15 (by decide) f104 (fun _ h9 => h9) rfl (by decide +kernel) rfl rfl (Nat.le_of_ble_eq_true rfl) dX5_bitsOf_109 (fun H locs hP _ hS => ?_)
                have hP : va_P D vwCl [(m_, .inr (5, [.int (nI tw), .int (nI sp), .int (nI dp), .ref mb, .int (nI sz), .int (nI ah), .ref mi, .ref mp, .ref m1, .ref m2, .ref m3, .ref mc, .ref ml, .int (nI bl9), .int (nI bd9), .int (nI rp1)])), (mb, zk_a cI 360 B), (mi, zk_a cZ 4 im9), (mp, zk_a cI 4 pc9), (m1, zk_a cI 1200 R1), (m2, zk_a cI 1200 R2), (m3, zk_a cI 1200 R3), (mc, zk_a cI 301 C9), (ml, zk_a cI 41 L9)] H := hP
                refine lv_iload_n hx hb dX5_bitsOf_112 rfl (lv_at hl 5 rfl) ?_
                refine lv_iload hx hb dX5_bitsOf_113 (lv_at hl 0 rfl) ?_
                refine zk_if_eq (tgt := 139) hx hb (by omega) dX5_bitsOf_115 (by decide) (fun c_23 => ?_) (fun c_23 => absurd c_23 (by omega))
                refine lv_iconst (v := (nI 2)) hx hb dX5_bitsOf_139 (by decide +kernel) ?_
                refine lv_aload_n hx hb dX5_bitsOf_140 rfl (lv_at hl 2 rfl) ?_
                refine va_get (D := D) (ci := 5) (v := .ref m2) (C := RX5) (T := TX5) (N := 16) hx hb hts ziX5_bitsOf_5 hown hK hP 0 rfl rfl 9 (by decide) f23 (fun _ h9 => h9) rfl dX5_bitsOf_141 ?_
                refine lv_iload hx hb dX5_bitsOf_144 (lv_at hl 9 rfl) ?_
                refine zk_ild (v := R2 (300 * w_ + i)) hx hb hK hP 5 0 (i := 300 * w_ + i) (g := R2) rfl rfl (by omega) (by decide) rfl dX5_bitsOf_146 ?_
                refine zk_top (congrArg nI hlx.symm) ?_
                refine lv_iconst (v := (nI 2)) hx hb dX5_bitsOf_147 (by decide +kernel) ?_
                refine zk_sub (v := lx - 2) hx hb (by omega) dX5_bitsOf_148 ?_
                refine zk_rdS (As := [.int (nI (lx - 2))]) (rest := [.int (nI 2), .int (nI bi)]) ⟨hx, hb, hml, hown, hts⟩ hN (c_g l D cI cZ cR (lx - 2) (by omega)) (va_cwS 1 hts gX5_bitsOf_X5_g rfl rfl rfl (by decide +kernel) ⟨Nat.le_of_ble_eq_true rfl, Nat.le_of_ble_eq_true rfl⟩) hK hP (zk_D hD rfl) [] rfl (by decide) rfl hl.1 rfl (Nat.le_of_ble_eq_true rfl) dX5_bitsOf_149 ⟨Nat.zero_le _, Nat.zero_le _⟩ ?_
                refine zk_add (v := 2 + (zr_G (lx - 2))) hx hb (rfl) dX5_bitsOf_152 ?_
                refine lv_iload hx hb dX5_bitsOf_153 (lv_at hl 1 rfl) ?_
                refine zk_rdS (As := [.int (nI dd)]) (rest := [.int (nI (2 + (zr_G (lx - 2)))), .int (nI bi)]) ⟨hx, hb, hml, hown, hts⟩ hN (c_g l D cI cZ cR dd (by omega)) (va_cwS 1 hts gX5_bitsOf_X5_g rfl rfl rfl (by decide +kernel) ⟨Nat.le_of_ble_eq_true rfl, Nat.le_of_ble_eq_true rfl⟩) hK hP (zk_D hD rfl) [] rfl (by decide) rfl hl.1 rfl (Nat.le_of_ble_eq_true rfl) dX5_bitsOf_155 ⟨Nat.zero_le _, Nat.zero_le _⟩ ?_
                refine zk_add (v := (2 + (zr_G (lx - 2))) + (zr_G dd)) hx hb (rfl) dX5_bitsOf_158 ?_
                refine zk_add (v := bi + ((2 + (zr_G (lx - 2))) + (zr_G dd))) hx hb (rfl) dX5_bitsOf_159 ?_
                refine lv_istore_n (lv' := [(3, .int (nI (bi + ((2 + (zr_G (lx - 2))) + (zr_G dd))))), (9, .int (nI 0)), (8, .int (nI dd)), (0, .ref m_), (1, .int (nI w_)), (2, .int (nI ag)), (4, .int (nI a1)), (5, .int (nI b1)), (6, .int (nI c1)), (7, .int (nI (300 * w_ + i)))]) hx hb dX5_bitsOf_160 rfl hl (by decide) rfl (fun ls hl => ?_)
                refine lv_iload hx hb dX5_bitsOf_161 (lv_at hl 2 rfl) ?_
                refine lv_iload hx hb dX5_bitsOf_163 (lv_at hl 6 rfl) ?_
                refine zk_icmp_eq (tgt := 175) hx hb (by omega) (by omega) dX5_bitsOf_165 (by decide) (fun c_24 => absurd c_24 (by omega)) (fun c_24 => ?_)
                refine lv_iload hx hb dX5_bitsOf_168 (lv_at hl 2 rfl) ?_
                refine lv_iload hx hb dX5_bitsOf_170 (lv_at hl 7 rfl) ?_
                refine zk_icmp_ne (tgt := 180) hx hb (by omega) (by omega) dX5_bitsOf_172 (by decide) (fun c_25 => ?_) (fun c_25 => absurd c_25 (by omega))
                refine lv_iload hx hb dX5_bitsOf_180 (lv_at hl 7 rfl) ?_
                refine lv_istore (lv' := [(6, .int (nI b1)), (3, .int (nI (bi + ((2 + (zr_G (lx - 2))) + (zr_G dd))))), (9, .int (nI 0)), (8, .int (nI dd)), (0, .ref m_), (1, .int (nI w_)), (2, .int (nI ag)), (4, .int (nI a1)), (5, .int (nI b1)), (7, .int (nI (300 * w_ + i)))]) hx hb dX5_bitsOf_182 hl (by decide) rfl (fun ls hl => ?_)
                refine lv_iload hx hb dX5_bitsOf_184 (lv_at hl 3 rfl) ?_
                refine lv_iload hx hb dX5_bitsOf_186 (lv_at hl 7 rfl) ?_
                refine zk_icmp_ne (tgt := 196) hx hb (by omega) (by omega) dX5_bitsOf_188 (by decide) (fun c_26 => ?_) (fun c_26 => absurd c_26 (by omega))
                refine lv_iload hx hb dX5_bitsOf_196 (lv_at hl 7 rfl) ?_
                refine lv_istore (lv' := [(5, .int (nI a1)), (6, .int (nI b1)), (3, .int (nI (bi + ((2 + (zr_G (lx - 2))) + (zr_G dd))))), (9, .int (nI 0)), (8, .int (nI dd)), (0, .ref m_), (1, .int (nI w_)), (2, .int (nI ag)), (4, .int (nI a1)), (7, .int (nI (300 * w_ + i)))]) hx hb dX5_bitsOf_198 hl (by decide) rfl (fun ls hl => ?_)
                refine lv_iload hx hb dX5_bitsOf_200 (lv_at hl 4 rfl) ?_
                refine lv_istore (lv' := [(4, .int (nI dd)), (5, .int (nI a1)), (6, .int (nI b1)), (3, .int (nI (bi + ((2 + (zr_G (lx - 2))) + (zr_G dd))))), (9, .int (nI 0)), (8, .int (nI dd)), (0, .ref m_), (1, .int (nI w_)), (2, .int (nI ag)), (7, .int (nI (300 * w_ + i)))]) hx hb dX5_bitsOf_202 hl (by decide) rfl (fun ls hl => ?_)
                refine lv_iinc (v := (nI (300 * w_ + (i + 1)))) (lv' := [(7, .int (nI (300 * w_ + (i + 1)))), (4, .int (nI dd)), (5, .int (nI a1)), (6, .int (nI b1)), (3, .int (nI (bi + ((2 + (zr_G (lx - 2))) + (zr_G dd))))), (9, .int (nI 0)), (8, .int (nI dd)), (0, .ref m_), (1, .int (nI w_)), (2, .int (nI ag))]) hx hb dX5_bitsOf_204 hl (k := 9) rfl (by rw [show Int32.ofInt 1 = (1 : Int32) from rfl, nI_1]; rfl) (by decide) rfl (fun ls hl => ?_)
                refine lv_goto (tgt := 28) hx hb dX5_bitsOf_207 (by decide) ?_
                exact ih28 (i + 1) (bi + ((2 + (zr_G (lx - 2))) + (zr_G dd))) dd a1 b1 rp1 (pb1 + (2 + zr_G (lx - 2) + zr_G dd)) (bw1 + (2 + zr_G (lx - 2) + zr_G dd)) ls _ _ (by omega) (by rw [zr_take_s hx9]; exact zr_bits_push g28_1 (by rw [zr_pc, if_neg (by omega), zr_cm, if_neg (by omega), zr_rem, if_neg c_3, if_neg c_11])) (by omega) (by omega) (by omega) (by omega) (by omega) hP hS (lv_sub hl [7, 8, 9, 4, 1, 2, 3, 0] rfl)
              · skip
                refine lv_iconst (v := (nI 1)) hx hb dX5_bitsOf_86 (by decide +kernel) ?_
                refine lv_goto (tgt := 91) hx hb dX5_bitsOf_87 (by decide) ?_
                refine lv_istore (lv' := [(9, .int (nI 1)), (8, .int (nI dd)), (0, .ref m_), (1, .int (nI w_)), (2, .int (nI ag)), (3, .int (nI bi)), (4, .int (nI a1)), (5, .int (nI b1)), (6, .int (nI c1)), (7, .int (nI (300 * w_ + i)))]) hx hb dX5_bitsOf_91 hl (by decide) rfl (fun ls hl => ?_)
                refine lv_aload_n hx hb dX5_bitsOf_93 rfl (lv_at hl 2 rfl) ?_
                refine lv_dup hx hb dX5_bitsOf_94 rfl ?_
                refine va_get (D := D) (ci := 5) (v := .int (nI rp1)) (C := RX5) (T := TX5) (N := 16) hx hb hts ziX5_bitsOf_5 hown hK hP 0 rfl rfl 15 (by decide) f104 (fun _ h9 => h9) rfl dX5_bitsOf_95 ?_
                refine lv_iload hx hb dX5_bitsOf_98 (lv_at hl 0 rfl) ?_
                refine zk_if_eq (tgt := 107) hx hb (by omega) dX5_bitsOf_100 (by decide) (fun c_27 => absurd c_27 (by omega)) (fun c_27 => ?_)
                refine lv_iconst (v := (nI 1)) hx hb dX5_bitsOf_103 (by decide +kernel) ?_
                refine lv_goto (tgt := 108) hx hb dX5_bitsOf_104 (by decide) ?_
                refine zk_add (v := rp1 + 1) hx hb (rfl) dX5_bitsOf_108 ?_
                refine va_put (D := D) (ci := 5) (v := .int (nI (rp1 + 1))) (ty := .int) (C := RX5) (T := TX5) (N := 16) hx hb hts ziX5_bitsOf_5 tyX5 tyX5_ok nmX5 hown hK hP (zk_D hD rfl) hS 0 rfl rfl 15 (by decide) f104 (fun _ h9 => h9) rfl (by decide +kernel) rfl rfl (Nat.le_of_ble_eq_true rfl) dX5_bitsOf_109 (fun H locs hP _ hS => ?_)
                have hP : va_P D vwCl [(m_, .inr (5, [.int (nI tw), .int (nI sp), .int (nI dp), .ref mb, .int (nI sz), .int (nI ah), .ref mi, .ref mp, .ref m1, .ref m2, .ref m3, .ref mc, .ref ml, .int (nI bl9), .int (nI bd9), .int (nI (rp1 + 1))])), (mb, zk_a cI 360 B), (mi, zk_a cZ 4 im9), (mp, zk_a cI 4 pc9), (m1, zk_a cI 1200 R1), (m2, zk_a cI 1200 R2), (m3, zk_a cI 1200 R3), (mc, zk_a cI 301 C9), (ml, zk_a cI 41 L9)] H := hP
                refine lv_iload_n hx hb dX5_bitsOf_112 rfl (lv_at hl 5 rfl) ?_
                refine lv_iload hx hb dX5_bitsOf_113 (lv_at hl 0 rfl) ?_
                refine zk_if_eq (tgt := 139) hx hb (by omega) dX5_bitsOf_115 (by decide) (fun c_28 => absurd c_28 (by omega)) (fun c_28 => ?_)
                refine lv_iload_n hx hb dX5_bitsOf_118 rfl (lv_at hl 4 rfl) ?_
                refine zk_if_eq (tgt := 139) hx hb (by omega) dX5_bitsOf_119 (by decide) (fun c_29 => ?_) (fun c_29 => ?_)
                · skip
                  refine lv_iconst (v := (nI 2)) hx hb dX5_bitsOf_139 (by decide +kernel) ?_
                  refine lv_aload_n hx hb dX5_bitsOf_140 rfl (lv_at hl 2 rfl) ?_
                  refine va_get (D := D) (ci := 5) (v := .ref m2) (C := RX5) (T := TX5) (N := 16) hx hb hts ziX5_bitsOf_5 hown hK hP 0 rfl rfl 9 (by decide) f23 (fun _ h9 => h9) rfl dX5_bitsOf_141 ?_
                  refine lv_iload hx hb dX5_bitsOf_144 (lv_at hl 9 rfl) ?_
                  refine zk_ild (v := R2 (300 * w_ + i)) hx hb hK hP 5 0 (i := 300 * w_ + i) (g := R2) rfl rfl (by omega) (by decide) rfl dX5_bitsOf_146 ?_
                  refine zk_top (congrArg nI hlx.symm) ?_
                  refine lv_iconst (v := (nI 2)) hx hb dX5_bitsOf_147 (by decide +kernel) ?_
                  refine zk_sub (v := lx - 2) hx hb (by omega) dX5_bitsOf_148 ?_
                  refine zk_rdS (As := [.int (nI (lx - 2))]) (rest := [.int (nI 2), .int (nI bi)]) ⟨hx, hb, hml, hown, hts⟩ hN (c_g l D cI cZ cR (lx - 2) (by omega)) (va_cwS 1 hts gX5_bitsOf_X5_g rfl rfl rfl (by decide +kernel) ⟨Nat.le_of_ble_eq_true rfl, Nat.le_of_ble_eq_true rfl⟩) hK hP (zk_D hD rfl) [] rfl (by decide) rfl hl.1 rfl (Nat.le_of_ble_eq_true rfl) dX5_bitsOf_149 ⟨Nat.zero_le _, Nat.zero_le _⟩ ?_
                  refine zk_add (v := 2 + (zr_G (lx - 2))) hx hb (rfl) dX5_bitsOf_152 ?_
                  refine lv_iload hx hb dX5_bitsOf_153 (lv_at hl 1 rfl) ?_
                  refine zk_rdS (As := [.int (nI dd)]) (rest := [.int (nI (2 + (zr_G (lx - 2)))), .int (nI bi)]) ⟨hx, hb, hml, hown, hts⟩ hN (c_g l D cI cZ cR dd (by omega)) (va_cwS 1 hts gX5_bitsOf_X5_g rfl rfl rfl (by decide +kernel) ⟨Nat.le_of_ble_eq_true rfl, Nat.le_of_ble_eq_true rfl⟩) hK hP (zk_D hD rfl) [] rfl (by decide) rfl hl.1 rfl (Nat.le_of_ble_eq_true rfl) dX5_bitsOf_155 ⟨Nat.zero_le _, Nat.zero_le _⟩ ?_
                  refine zk_add (v := (2 + (zr_G (lx - 2))) + (zr_G dd)) hx hb (rfl) dX5_bitsOf_158 ?_
                  refine zk_add (v := bi + ((2 + (zr_G (lx - 2))) + (zr_G dd))) hx hb (rfl) dX5_bitsOf_159 ?_
                  refine lv_istore_n (lv' := [(3, .int (nI (bi + ((2 + (zr_G (lx - 2))) + (zr_G dd))))), (9, .int (nI 1)), (8, .int (nI dd)), (0, .ref m_), (1, .int (nI w_)), (2, .int (nI ag)), (4, .int (nI a1)), (5, .int (nI b1)), (6, .int (nI c1)), (7, .int (nI (300 * w_ + i)))]) hx hb dX5_bitsOf_160 rfl hl (by decide) rfl (fun ls hl => ?_)
                  refine lv_iload hx hb dX5_bitsOf_161 (lv_at hl 2 rfl) ?_
                  refine lv_iload hx hb dX5_bitsOf_163 (lv_at hl 6 rfl) ?_
                  refine zk_icmp_eq (tgt := 175) hx hb (by omega) (by omega) dX5_bitsOf_165 (by decide) (fun c_30 => absurd c_30 (by omega)) (fun c_30 => ?_)
                  refine lv_iload hx hb dX5_bitsOf_168 (lv_at hl 2 rfl) ?_
                  refine lv_iload hx hb dX5_bitsOf_170 (lv_at hl 7 rfl) ?_
                  refine zk_icmp_ne (tgt := 180) hx hb (by omega) (by omega) dX5_bitsOf_172 (by decide) (fun c_31 => ?_) (fun c_31 => absurd c_31 (by omega))
                  refine lv_iload hx hb dX5_bitsOf_180 (lv_at hl 7 rfl) ?_
                  refine lv_istore (lv' := [(6, .int (nI b1)), (3, .int (nI (bi + ((2 + (zr_G (lx - 2))) + (zr_G dd))))), (9, .int (nI 1)), (8, .int (nI dd)), (0, .ref m_), (1, .int (nI w_)), (2, .int (nI ag)), (4, .int (nI a1)), (5, .int (nI b1)), (7, .int (nI (300 * w_ + i)))]) hx hb dX5_bitsOf_182 hl (by decide) rfl (fun ls hl => ?_)
                  refine lv_iload hx hb dX5_bitsOf_184 (lv_at hl 3 rfl) ?_
                  refine lv_iload hx hb dX5_bitsOf_186 (lv_at hl 7 rfl) ?_
                  refine zk_icmp_ne (tgt := 196) hx hb (by omega) (by omega) dX5_bitsOf_188 (by decide) (fun c_32 => ?_) (fun c_32 => absurd c_32 (by omega))
                  refine lv_iload hx hb dX5_bitsOf_196 (lv_at hl 7 rfl) ?_
                  refine lv_istore (lv' := [(5, .int (nI a1)), (6, .int (nI b1)), (3, .int (nI (bi + ((2 + (zr_G (lx - 2))) + (zr_G dd))))), (9, .int (nI 1)), (8, .int (nI dd)), (0, .ref m_), (1, .int (nI w_)), (2, .int (nI ag)), (4, .int (nI a1)), (7, .int (nI (300 * w_ + i)))]) hx hb dX5_bitsOf_198 hl (by decide) rfl (fun ls hl => ?_)
                  refine lv_iload hx hb dX5_bitsOf_200 (lv_at hl 4 rfl) ?_
                  refine lv_istore (lv' := [(4, .int (nI dd)), (5, .int (nI a1)), (6, .int (nI b1)), (3, .int (nI (bi + ((2 + (zr_G (lx - 2))) + (zr_G dd))))), (9, .int (nI 1)), (8, .int (nI dd)), (0, .ref m_), (1, .int (nI w_)), (2, .int (nI ag)), (7, .int (nI (300 * w_ + i)))]) hx hb dX5_bitsOf_202 hl (by decide) rfl (fun ls hl => ?_)
                  refine lv_iinc (v := (nI (300 * w_ + (i + 1)))) (lv' := [(7, .int (nI (300 * w_ + (i + 1)))), (4, .int (nI dd)), (5, .int (nI a1)), (6, .int (nI b1)), (3, .int (nI (bi + ((2 + (zr_G (lx - 2))) + (zr_G dd))))), (9, .int (nI 1)), (8, .int (nI dd)), (0, .ref m_), (1, .int (nI w_)), (2, .int (nI ag))]) hx hb dX5_bitsOf_204 hl (k := 9) rfl (by rw [show Int32.ofInt 1 = (1 : Int32) from rfl, nI_1]; rfl) (by decide) rfl (fun ls hl => ?_)
                  refine lv_goto (tgt := 28) hx hb dX5_bitsOf_207 (by decide) ?_
                  exact ih28 (i + 1) (bi + ((2 + (zr_G (lx - 2))) + (zr_G dd))) dd a1 b1 (rp1 + 1) (pb1 + (2 + zr_G (lx - 2) + zr_G dd)) (bw1 + (4 + zr_G (lx - 2))) ls _ _ (by omega) (by rw [zr_take_s hx9]; exact zr_bits_push g28_1 (by rw [zr_pc, if_neg (by omega), zr_cm, if_pos (Or.inr (Or.inr c_21)), zr_rem, if_neg c_3, if_neg c_11])) (by omega) (by omega) (by omega) (by omega) (by omega) hP hS (lv_sub hl [7, 8, 9, 4, 1, 2, 3, 0] rfl)
                · skip
                  refine lv_iconst (v := (nI 4)) hx hb dX5_bitsOf_122 (by decide +kernel) ?_
                  refine lv_aload_n hx hb dX5_bitsOf_123 rfl (lv_at hl 2 rfl) ?_
                  refine va_get (D := D) (ci := 5) (v := .ref m2) (C := RX5) (T := TX5) (N := 16) hx hb hts ziX5_bitsOf_5 hown hK hP 0 rfl rfl 9 (by decide) f23 (fun _ h9 => h9) rfl dX5_bitsOf_124 ?_
                  refine lv_iload hx hb dX5_bitsOf_127 (lv_at hl 9 rfl) ?_
                  refine zk_ild (v := R2 (300 * w_ + i)) hx hb hK hP 5 0 (i := 300 * w_ + i) (g := R2) rfl rfl (by omega) (by decide) rfl dX5_bitsOf_129 ?_
                  refine zk_top (congrArg nI hlx.symm) ?_
                  refine lv_iconst (v := (nI 2)) hx hb dX5_bitsOf_130 (by decide +kernel) ?_
                  refine zk_sub (v := lx - 2) hx hb (by omega) dX5_bitsOf_131 ?_
                  refine zk_rdS (As := [.int (nI (lx - 2))]) (rest := [.int (nI 4), .int (nI bi)]) ⟨hx, hb, hml, hown, hts⟩ hN (c_g l D cI cZ cR (lx - 2) (by omega)) (va_cwS 1 hts gX5_bitsOf_X5_g rfl rfl rfl (by decide +kernel) ⟨Nat.le_of_ble_eq_true rfl, Nat.le_of_ble_eq_true rfl⟩) hK hP (zk_D hD rfl) [] rfl (by decide) rfl hl.1 rfl (Nat.le_of_ble_eq_true rfl) dX5_bitsOf_132 ⟨Nat.zero_le _, Nat.zero_le _⟩ ?_
                  refine zk_add (v := 4 + (zr_G (lx - 2))) hx hb (rfl) dX5_bitsOf_135 ?_
                  refine lv_goto (tgt := 159) hx hb dX5_bitsOf_136 (by decide) ?_
                  refine zk_add (v := bi + (4 + (zr_G (lx - 2)))) hx hb (rfl) dX5_bitsOf_159 ?_
                  refine lv_istore_n (lv' := [(3, .int (nI (bi + (4 + (zr_G (lx - 2)))))), (9, .int (nI 1)), (8, .int (nI dd)), (0, .ref m_), (1, .int (nI w_)), (2, .int (nI ag)), (4, .int (nI a1)), (5, .int (nI b1)), (6, .int (nI c1)), (7, .int (nI (300 * w_ + i)))]) hx hb dX5_bitsOf_160 rfl hl (by decide) rfl (fun ls hl => ?_)
                  refine lv_iload hx hb dX5_bitsOf_161 (lv_at hl 2 rfl) ?_
                  refine lv_iload hx hb dX5_bitsOf_163 (lv_at hl 6 rfl) ?_
                  refine zk_icmp_eq (tgt := 175) hx hb (by omega) (by omega) dX5_bitsOf_165 (by decide) (fun c_33 => absurd c_33 (by omega)) (fun c_33 => ?_)
                  refine lv_iload hx hb dX5_bitsOf_168 (lv_at hl 2 rfl) ?_
                  refine lv_iload hx hb dX5_bitsOf_170 (lv_at hl 7 rfl) ?_
                  refine zk_icmp_ne (tgt := 180) hx hb (by omega) (by omega) dX5_bitsOf_172 (by decide) (fun c_34 => ?_) (fun c_34 => absurd c_34 (by omega))
                  refine lv_iload hx hb dX5_bitsOf_180 (lv_at hl 7 rfl) ?_
                  refine lv_istore (lv' := [(6, .int (nI b1)), (3, .int (nI (bi + (4 + (zr_G (lx - 2)))))), (9, .int (nI 1)), (8, .int (nI dd)), (0, .ref m_), (1, .int (nI w_)), (2, .int (nI ag)), (4, .int (nI a1)), (5, .int (nI b1)), (7, .int (nI (300 * w_ + i)))]) hx hb dX5_bitsOf_182 hl (by decide) rfl (fun ls hl => ?_)
                  refine lv_iload hx hb dX5_bitsOf_184 (lv_at hl 3 rfl) ?_
                  refine lv_iload hx hb dX5_bitsOf_186 (lv_at hl 7 rfl) ?_
                  refine zk_icmp_ne (tgt := 196) hx hb (by omega) (by omega) dX5_bitsOf_188 (by decide) (fun c_35 => ?_) (fun c_35 => absurd c_35 (by omega))
                  refine lv_iload hx hb dX5_bitsOf_196 (lv_at hl 7 rfl) ?_
                  refine lv_istore (lv' := [(5, .int (nI a1)), (6, .int (nI b1)), (3, .int (nI (bi + (4 + (zr_G (lx - 2)))))), (9, .int (nI 1)), (8, .int (nI dd)), (0, .ref m_), (1, .int (nI w_)), (2, .int (nI ag)), (4, .int (nI a1)), (7, .int (nI (300 * w_ + i)))]) hx hb dX5_bitsOf_198 hl (by decide) rfl (fun ls hl => ?_)
                  refine lv_iload hx hb dX5_bitsOf_200 (lv_at hl 4 rfl) ?_
                  refine lv_istore (lv' := [(4, .int (nI dd)), (5, .int (nI a1)), (6, .int (nI b1)), (3, .int (nI (bi + (4 + (zr_G (lx - 2)))))), (9, .int (nI 1)), (8, .int (nI dd)), (0, .ref m_), (1, .int (nI w_)), (2, .int (nI ag)), (7, .int (nI (300 * w_ + i)))]) hx hb dX5_bitsOf_202 hl (by decide) rfl (fun ls hl => ?_)
                  refine lv_iinc (v := (nI (300 * w_ + (i + 1)))) (lv' := [(7, .int (nI (300 * w_ + (i + 1)))), (4, .int (nI dd)), (5, .int (nI a1)), (6, .int (nI b1)), (3, .int (nI (bi + (4 + (zr_G (lx - 2)))))), (9, .int (nI 1)), (8, .int (nI dd)), (0, .ref m_), (1, .int (nI w_)), (2, .int (nI ag))]) hx hb dX5_bitsOf_204 hl (k := 9) rfl (by rw [show Int32.ofInt 1 = (1 : Int32) from rfl, nI_1]; rfl) (by decide) rfl (fun ls hl => ?_)
                  refine lv_goto (tgt := 28) hx hb dX5_bitsOf_207 (by decide) ?_
                  exact ih28 (i + 1) (bi + (4 + (zr_G (lx - 2)))) dd a1 b1 (rp1 + 1) (pb1 + (2 + zr_G (lx - 2) + zr_G dd)) (bw1 + (4 + zr_G (lx - 2))) ls _ _ (by omega) (by rw [zr_take_s hx9]; exact zr_bits_push g28_1 (by rw [zr_pc, if_neg (by omega), zr_cm, if_pos (Or.inr (Or.inr c_21)), zr_rem, if_neg c_3, if_neg c_11])) (by omega) (by omega) (by omega) (by omega) (by omega) hP hS (lv_sub hl [7, 8, 9, 4, 1, 2, 3, 0] rfl)
        · skip
          refine lv_iinc (v := (nI (bi + 9))) (lv' := [(3, .int (nI (bi + 9))), (8, .int (nI dd)), (0, .ref m_), (1, .int (nI w_)), (2, .int (nI ag)), (4, .int (nI a1)), (5, .int (nI b1)), (6, .int (nI c1)), (7, .int (nI (300 * w_ + i)))]) hx hb dX5_bitsOf_59 hl (k := 4) rfl (zk_inc9 bi) (by decide) rfl (fun ls hl => ?_)
          refine lv_goto (tgt := 204) hx hb dX5_bitsOf_62 (by decide) ?_
          refine lv_iinc (v := (nI (300 * w_ + (i + 1)))) (lv' := [(7, .int (nI (300 * w_ + (i + 1)))), (3, .int (nI (bi + 9))), (8, .int (nI dd)), (0, .ref m_), (1, .int (nI w_)), (2, .int (nI ag)), (4, .int (nI a1)), (5, .int (nI b1)), (6, .int (nI c1))]) hx hb dX5_bitsOf_204 hl (k := 8) rfl (by rw [show Int32.ofInt 1 = (1 : Int32) from rfl, nI_1]; rfl) (by decide) rfl (fun ls hl => ?_)
          refine lv_goto (tgt := 28) hx hb dX5_bitsOf_207 (by decide) ?_
          exact ih28 (i + 1) (bi + 9) a1 b1 c1 rp1 (pb1 + 9) (bw1 + 9) ls _ _ (by omega) (by rw [zr_take_s hx9]; exact zr_bits_push g28_1 (by rw [zr_pc, if_pos c_2])) (by omega) (by omega) (by omega) (by omega) (by omega) hP hS (lv_sub hl [3, 4, 5, 1, 6, 7, 8, 0] rfl)
  exact L28 (pc9 w_ - 0 + 1) 0 0 0 0 0 0 0 0 ls _ _ (by omega) (by rw [List.take_zero]; rfl) (by omega) (by omega) (by omega) (by omega) (by omega) hP hS (lv_sub hl [5, 6, 7, 4, 3, 2, 1, 0] rfl)
