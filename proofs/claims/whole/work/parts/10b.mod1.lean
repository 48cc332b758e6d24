theorem zk_fno {α : Type} {n : Int32} {a b : α} (h : n < nI 1 ∨ nI 300 < n) : (if n < nI 1 then a else if nI 300 < n then a else b) = a := by
  by_cases h1 : n < nI 1
  · rw [if_pos h1]
  · rw [if_neg h1, if_pos (h.resolve_left h1)]
def rmX5_add : Room := { frames := 1, cells := 0, slots := 0, locals := 22 }
set_option maxRecDepth 20000 in
theorem ziX5_add_5 : ∀ w ∈ wsX50, w ∈ wsX5_add := by decide +kernel
set_option maxHeartbeats 4000000 in
set_option maxRecDepth 100000 in
/-- add of the reference -/
theorem c_madd (l : Launch) (D : va_G) (cI cZ cR : ClassId) (m_ : Nat) (tw : Nat) (sp : Nat) (dp : Nat) (mb : Nat) (sz : Nat) (ah : Nat) (mi : Nat) (mp : Nat) (m1 : Nat) (m2 : Nat) (m3 : Nat) (mc : Nat) (ml : Nat) (bl : Nat) (bd : Nat) (rp : Nat) (B : Nat → Nat) (im : Nat → Nat) (pc : Nat → Nat) (P1 : Nat → Nat) (P2 : Nat → Nat) (P3 : Nat → Nat) (b_ : Int32) (h0 : ah ≤ 60) (h1 : sz ≤ 300) (h2 : ∀ j, B j < 256) (h3 : zr_mrows (zr_v B ah) ah sz sp dp im pc P1 P2 P3) : zk_Wi l yX5_add wsX5_add rmX5_add D (zk_t cI cZ cR) [.ref m_, .int b_] [(m_, .inr (5, [.int (nI tw), .int (nI sp), .int (nI dp), .ref mb, .int (nI sz), .int (nI ah), .ref mi, .ref mp, .ref m1, .ref m2, .ref m3, .ref mc, .ref ml, .int (nI bl), .int (nI bd), .int (nI rp)])), (mb, zk_a cI 360 B), (mi, zk_a cZ 4 im)] (fun (r : Int32) (u : (Nat → Nat) × Nat × Nat × (Nat → Nat)) => match u with | (B2, ah2, sz2, im2) => zT_add b_ (zr_v B ah) ah sz = (r, zr_v B2 ah2, ah2, sz2) ∧ (∀ j, B2 j < 256) ∧ zr_mrows (zr_v B2 ah2) ah2 sz2 sp dp im2 pc P1 P2 P3) (fun u => match u with | (B2, ah2, sz2, im2) => [(m_, .inr (5, [.int (nI 0), .int (nI sp), .int (nI dp), .ref mb, .int (nI sz2), .int (nI ah2), .ref mi, .ref mp, .ref m1, .ref m2, .ref m3, .ref mc, .ref ml, .int (nI bl), .int (nI bd), .int (nI rp)])), (mb, zk_a cI 360 B2), (mi, zk_a cZ 4 im2)]) := by
  refine zk_enterI RX5 cX5_add 2 (by decide) rfl rfl (Nat.le_of_ble_eq_true rfl) ?_
  intro p e s m args below meth c ls A Q hx hb hml hown hts hP hK hD hN hl hA hS hret
  have hl : lv_has ls 2 [(0, .ref m_), (1, .int b_)] := hl
  have f42 := hts (.fieldLink RX5 42 "MatchFindersModel" "thrown" "I") (by decide +kernel)
  have f45 := hts (.fieldLink RX5 45 "MatchFindersModel" "size" "I") (by decide +kernel)
  refine lv_aload_n hx hb dX5_add_0 rfl (lv_at hl 0 rfl) ?_
  refine lv_iconst (v := (nI 0)) hx hb dX5_add_1 (by decide +kernel) ?_
  refine va_put (D := D) (ci := 5) (v := .int (nI 0)) (ty := .int) (C := RX5) (T := TX5) (N := 16) hx hb hts ziX5_add_5 tyX5 tyX5_ok nmX5 hown hK hP (zk_D hD rfl) hS 0 rfl rfl 0 (by decide) f42 (fun _ h9 => h9) rfl (by decide +kernel) rfl rfl (Nat.le_of_ble_eq_true rfl) dX5_add_2 (fun H locs hP _ hS => ?_)
  have hP : va_P D vwCl [(m_, .inr (5, [.int (nI 0), .int (nI sp), .int (nI dp), .ref mb, .int (nI sz), .int (nI ah), .ref mi, .ref mp, .ref m1, .ref m2, .ref m3, .ref mc, .ref ml, .int (nI bl), .int (nI bd), .int (nI rp)])), (mb, zk_a cI 360 B), (mi, zk_a cZ 4 im)] H := hP
  refine lv_iload_n hx hb dX5_add_5 rfl (lv_at hl 1 rfl) ?_
  refine lv_iconst (v := (nI 0)) hx hb dX5_add_6 (by decide +kernel) ?_
  refine lv_sipush (v := (nI 255)) hx hb dX5_add_7 (by decide +kernel) ?_
  refine zk_rdS (As := [.int b_, .int (nI 0), .int (nI 255)]) (rest := []) ⟨hx, hb, hml, hown, hts⟩ hN (c_in l D cI cZ cR b_ (nI 0) (nI 255)) (va_cwS 3 hts gX5_add_X5_in rfl rfl rfl (by decide +kernel) ⟨Nat.le_of_ble_eq_true rfl, Nat.le_of_ble_eq_true rfl⟩) hK hP (zk_D hD rfl) [] rfl (by decide) rfl hl.1 rfl (Nat.le_of_ble_eq_true rfl) dX5_add_10 ⟨Nat.zero_le _, Nat.zero_le _⟩ ?_
  refine lv_if_ne (tgt := 19) hx hb dX5_add_13 (by decide) (fun c_1 => ?_) (fun c_1 => ?_)
  · skip
    obtain ⟨j, hj1, hj, hbj⟩ := zk_in2 (lo := 0) (hi := 255) (by decide) (by decide) c_1
    subst hbj
    refine lv_aload_n hx hb dX5_add_19 rfl (lv_at hl 0 rfl) ?_
    refine va_get (D := D) (ci := 5) (v := .int (nI sz)) (C := RX5) (T := TX5) (N := 16) hx hb hts ziX5_add_5 hown hK hP 0 rfl rfl 4 (by decide) f45 (fun _ h9 => h9) rfl dX5_add_20 ?_
    refine lv_sipush (v := (nI 300)) hx hb dX5_add_23 (by decide +kernel) ?_
    refine zk_icmp_ne (tgt := 32) hx hb (by omega) (by omega) dX5_add_26 (by decide) (fun c_2 => ?_) (fun c_2 => ?_)
    · skip
      refine lv_aload_n hx hb dX5_add_32 rfl (lv_at hl 0 rfl) ?_
      refine lv_iload_n hx hb dX5_add_33 rfl (lv_at hl 1 rfl) ?_
      refine zk_wrV (As := [.int (nI j)]) (rest := []) ⟨hx, hb, hml, hown, hts⟩ hN (c_lay l D cI cZ cR m_ 0 sp dp mb sz ah mi mp m1 m2 m3 mc ml bl bd rp B j (by omega)) (cwV 1 hts gX5_add_X5_lay rfl rfl rfl (by decide +kernel) ⟨Nat.le_of_ble_eq_true rfl, Nat.le_of_ble_eq_true rfl⟩) hK hP (zk_D hD rfl) hS hA [0, 1] rfl (by decide) (fun _ => rfl) rfl rfl rfl rfl hl.1 rfl (Nat.le_of_ble_eq_true rfl) dX5_add_34 ⟨Nat.zero_le _, Nat.zero_le _⟩ (fun u H locs hu1 hP hS => ?_)
      have hP : va_P D vwCl [(m_, .inr (5, [.int (nI 0), .int (nI sp), .int (nI dp), .ref mb, .int (nI (sz + 1)), .int (nI ah), .ref mi, .ref mp, .ref m1, .ref m2, .ref m3, .ref mc, .ref ml, .int (nI bl), .int (nI bd), .int (nI rp)])), (mb, zk_a cI 360 (zk_up B (60 + sz) j)), (mi, zk_a cZ 4 im)] H := hP
      refine lv_aload_n hx hb dX5_add_37 rfl (lv_at hl 0 rfl) ?_
      refine zk_wrV (As := []) (rest := []) ⟨hx, hb, hml, hown, hts⟩ hN (c_forget l D cI cZ cR m_ 0 sp dp mb (sz + 1) ah mi mp m1 m2 m3 mc ml bl bd rp im) (cwV 0 hts gX5_add_X5_forget rfl rfl rfl (by decide +kernel) ⟨Nat.le_of_ble_eq_true rfl, Nat.le_of_ble_eq_true rfl⟩) hK hP (zk_D hD rfl) hS hA [0, 2] rfl (by decide) (fun _ => rfl) rfl rfl rfl rfl hl.1 rfl (Nat.le_of_ble_eq_true rfl) dX5_add_38 ⟨Nat.zero_le _, Nat.zero_le _⟩ (fun u H locs hu2 hP hS => ?_)
      have hP : va_P D vwCl [(m_, .inr (5, [.int (nI 0), .int (nI sp), .int (nI dp), .ref mb, .int (nI (sz + 1)), .int (nI ah), .ref mi, .ref mp, .ref m1, .ref m2, .ref m3, .ref mc, .ref ml, .int (nI bl), .int (nI bd), .int (nI rp)])), (mb, zk_a cI 360 (zk_up B (60 + sz) j)), (mi, zk_a cZ 4 (zk_z4 im))] H := hP
      refine lv_aload_n hx hb dX5_add_41 rfl (lv_at hl 0 rfl) ?_
      refine va_get (D := D) (ci := 5) (v := .int (nI (sz + 1))) (C := RX5) (T := TX5) (N := 16) hx hb hts ziX5_add_5 hown hK hP 0 rfl rfl 4 (by decide) f45 (fun _ h9 => h9) rfl dX5_add_42 ?_
      exact hret _ ls _ _ _ (zk_up B (60 + sz) j, ah, sz + 1, zk_z4 im) dX5_add_45 ⟨by rw [zT_add, zk_win hj (by decide), if_pos (by omega), nI_clamp (by omega), zr_v_up h0], zk_up_lt h2 (by omega), zr_mrows_0⟩ hP hS
    · skip
      refine lv_bipush (v := (-4)) hx hb dX5_add_29 (by decide +kernel) ?_
      exact hret _ ls _ _ _ (B, ah, sz, im) dX5_add_31 ⟨by rw [zT_add, zk_win hj (by decide), if_neg (by omega)], h2, h3⟩ hP hS
  · skip
    have hwn := zk_in0 (lo := 0) (hi := 255) c_1
    refine lv_bipush (v := (-2)) hx hb dX5_add_16 (by decide +kernel) ?_
    exact hret _ ls _ _ _ (B, ah, sz, im) dX5_add_18 ⟨by rw [zT_add, zk_wout2 hwn], h2, h3⟩ hP hS
def rmX5_clear : Room := { frames := 1, cells := 0, slots := 0, locals := 21 }
set_option maxRecDepth 20000 in
theorem ziX5_clear_5 : ∀ w ∈ wsX50, w ∈ wsX5_clear := by decide +kernel
set_option maxHeartbeats 4000000 in
set_option maxRecDepth 100000 in
/-- clear of the reference -/
theorem c_mclear (l : Launch) (D : va_G) (cI cZ cR : ClassId) (m_ : Nat) (tw : Nat) (sp : Nat) (dp : Nat) (mb : Nat) (sz : Nat) (ah : Nat) (mi : Nat) (mp : Nat) (m1 : Nat) (m2 : Nat) (m3 : Nat) (mc : Nat) (ml : Nat) (bl : Nat) (bd : Nat) (rp : Nat) (B : Nat → Nat) (im : Nat → Nat) (pc : Nat → Nat) (P1 : Nat → Nat) (P2 : Nat → Nat) (P3 : Nat → Nat) (h0 : ah ≤ 60) (h1 : sz ≤ 300) (h2 : ∀ j, B j < 256) (h3 : zr_mrows (zr_v B ah) ah sz sp dp im pc P1 P2 P3) : zk_Wi l yX5_clear wsX5_clear rmX5_clear D (zk_t cI cZ cR) [.ref m_] [(m_, .inr (5, [.int (nI tw), .int (nI sp), .int (nI dp), .ref mb, .int (nI sz), .int (nI ah), .ref mi, .ref mp, .ref m1, .ref m2, .ref m3, .ref mc, .ref ml, .int (nI bl), .int (nI bd), .int (nI rp)])), (mb, zk_a cI 360 B), (mi, zk_a cZ 4 im)] (fun (r : Int32) (u : (Nat → Nat) × Nat × Nat × (Nat → Nat)) => match u with | (B2, ah2, sz2, im2) => (nI sz, (zr_v B ah), ah, 0) = (r, zr_v B2 ah2, ah2, sz2) ∧ (∀ j, B2 j < 256) ∧ zr_mrows (zr_v B2 ah2) ah2 sz2 sp dp im2 pc P1 P2 P3) (fun u => match u with | (B2, ah2, sz2, im2) => [(m_, .inr (5, [.int (nI 0), .int (nI sp), .int (nI dp), .ref mb, .int (nI sz2), .int (nI ah2), .ref mi, .ref mp, .ref m1, .ref m2, .ref m3, .ref mc, .ref ml, .int (nI bl), .int (nI bd), .int (nI rp)])), (mb, zk_a cI 360 B2), (mi, zk_a cZ 4 im2)]) := by
  refine zk_enterI RX5 cX5_clear 2 (by decide) rfl rfl (Nat.le_of_ble_eq_true rfl) ?_
  intro p e s m args below meth c ls A Q hx hb hml hown hts hP hK hD hN hl hA hS hret
  have hl : lv_has ls 2 [(0, .ref m_)] := hl
  have f42 := hts (.fieldLink RX5 42 "MatchFindersModel" "thrown" "I") (by decide +kernel)
  have f45 := hts (.fieldLink RX5 45 "MatchFindersModel" "size" "I") (by decide +kernel)
  refine lv_aload_n hx hb dX5_clear_0 rfl (lv_at hl 0 rfl) ?_
  refine lv_iconst (v := (nI 0)) hx hb dX5_clear_1 (by decide +kernel) ?_
  refine va_put (D := D) (ci := 5) (v := .int (nI 0)) (ty := .int) (C := RX5) (T := TX5) (N := 16) hx hb hts ziX5_clear_5 tyX5 tyX5_ok nmX5 hown hK hP (zk_D hD rfl) hS 0 rfl rfl 0 (by decide) f42 (fun _ h9 => h9) rfl (by decide +kernel) rfl rfl (Nat.le_of_ble_eq_true rfl) dX5_clear_2 (fun H locs hP _ hS => ?_)
  have hP : va_P D vwCl [(m_, .inr (5, [.int (nI 0), .int (nI sp), .int (nI dp), .ref mb, .int (nI sz), .int (nI ah), .ref mi, .ref mp, .ref m1, .ref m2, .ref m3, .ref mc, .ref ml, .int (nI bl), .int (nI bd), .int (nI rp)])), (mb, zk_a cI 360 B), (mi, zk_a cZ 4 im)] H := hP
  refine lv_aload_n hx hb dX5_clear_5 rfl (lv_at hl 0 rfl) ?_
  refine va_get (D := D) (ci := 5) (v := .int (nI sz)) (C := RX5) (T := TX5) (N := 16) hx hb hts ziX5_clear_5 hown hK hP 0 rfl rfl 4 (by decide) f45 (fun _ h9 => h9) rfl dX5_clear_6 ?_
  refine lv_istore_n (lv' := [(1, .int (nI sz)), (0, .ref m_)]) hx hb dX5_clear_9 rfl hl (by decide) rfl (fun ls hl => ?_)
  refine lv_aload_n hx hb dX5_clear_10 rfl (lv_at hl 1 rfl) ?_
  refine lv_iconst (v := (nI 0)) hx hb dX5_clear_11 (by decide +kernel) ?_
  refine va_put (D := D) (ci := 5) (v := .int (nI 0)) (ty := .int) (C := RX5) (T := TX5) (N := 16) hx hb hts ziX5_clear_5 tyX5 tyX5_ok nmX5 hown hK hP (zk_D hD rfl) hS 0 rfl rfl 4 (by decide) f45 (fun _ h9 => h9) rfl (by decide +kernel) rfl rfl (Nat.le_of_ble_eq_true rfl) dX5_clear_12 (fun H locs hP _ hS => ?_)
  have hP : va_P D vwCl [(m_, .inr (5, [.int (nI 0), .int (nI sp), .int (nI dp), .ref mb, .int (nI 0), .int (nI ah), .ref mi, .ref mp, .ref m1, .ref m2, .ref m3, .ref mc, .ref ml, .int (nI bl), .int (nI bd), .int (nI rp)])), (mb, zk_a cI 360 B), (mi, zk_a cZ 4 im)] H := hP
  refine lv_aload_n hx hb dX5_clear_15 rfl (lv_at hl 1 rfl) ?_
  refine zk_wrV (As := []) (rest := []) ⟨hx, hb, hml, hown, hts⟩ hN (c_forget l D cI cZ cR m_ 0 sp dp mb 0 ah mi mp m1 m2 m3 mc ml bl bd rp im) (cwV 0 hts gX5_clear_X5_forget rfl rfl rfl (by decide +kernel) ⟨Nat.le_of_ble_eq_true rfl, Nat.le_of_ble_eq_true rfl⟩) hK hP (zk_D hD rfl) hS hA [0, 2] rfl (by decide) (fun _ => rfl) rfl rfl rfl rfl hl.1 rfl (Nat.le_of_ble_eq_true rfl) dX5_clear_16 ⟨Nat.zero_le _, Nat.zero_le _⟩ (fun u H locs hu2 hP hS => ?_)
  have hP : va_P D vwCl [(m_, .inr (5, [.int (nI 0), .int (nI sp), .int (nI dp), .ref mb, .int (nI 0), .int (nI ah), .ref mi, .ref mp, .ref m1, .ref m2, .ref m3, .ref mc, .ref ml, .int (nI bl), .int (nI bd), .int (nI rp)])), (mb, zk_a cI 360 B), (mi, zk_a cZ 4 (zk_z4 im))] H := hP
  refine lv_iload_n hx hb dX5_clear_19 rfl (lv_at hl 0 rfl) ?_
  exact hret _ ls _ _ _ (B, ah, 0, zk_z4 im) dX5_clear_20 ⟨rfl, h2, zr_mrows_0⟩ hP hS
def rmX5_dictionary : Room := { frames := 1, cells := 0, slots := 0, locals := 21 }
set_option maxRecDepth 20000 in
theorem ziX5_dictionary_5 : ∀ w ∈ wsX50, w ∈ wsX5_dictionary := by decide +kernel
set_option maxHeartbeats 4000000 in
set_option maxRecDepth 100000 in
/-- dictionary of the reference -/
theorem c_mdictionary (l : Launch) (D : va_G) (cI cZ cR : ClassId) (m_ : Nat) (tw : Nat) (sp : Nat) (dp : Nat) (mb : Nat) (sz : Nat) (ah : Nat) (mi : Nat) (mp : Nat) (m1 : Nat) (m2 : Nat) (m3 : Nat) (mc : Nat) (ml : Nat) (bl : Nat) (bd : Nat) (rp : Nat) (B : Nat → Nat) (im : Nat → Nat) (h0 : ah ≤ 60) (h1 : sz ≤ 300) : zk_Wi l yX5_dictionary wsX5_dictionary rmX5_dictionary D (zk_t cI cZ cR) [.ref m_] [(m_, .inr (5, [.int (nI tw), .int (nI sp), .int (nI dp), .ref mb, .int (nI sz), .int (nI ah), .ref mi, .ref mp, .ref m1, .ref m2, .ref m3, .ref mc, .ref ml, .int (nI bl), .int (nI bd), .int (nI rp)])), (mb, zk_a cI 360 B), (mi, zk_a cZ 4 im)] (fun (r : Int32) (_ : Unit) => r = (nI (min 60 sz))) (fun _ => [(m_, .inr (5, [.int (nI 0), .int (nI sp), .int (nI dp), .ref mb, .int (nI 0), .int (nI (min 60 sz)), .ref mi, .ref mp, .ref m1, .ref m2, .ref m3, .ref mc, .ref ml, .int (nI bl), .int (nI bd), .int (nI rp)])), (mb, zk_a cI 360 (zr_mcp B (60 - min 60 sz) (60 + sz - min 60 sz) (min 60 sz))), (mi, zk_a cZ 4 (zk_z4 im))]) := by
  refine zk_enterI RX5 cX5_dictionary 2 (by decide) rfl rfl (Nat.le_of_ble_eq_true rfl) ?_
  intro p e s m args below meth c ls A Q hx hb hml hown hts hP hK hD hN hl hA hS hret
  have hl : lv_has ls 2 [(0, .ref m_)] := hl
  have f7 := hts (.fieldLink RX5 7 "MatchFindersModel" "bytes" "[I") (by decide +kernel)
  have f42 := hts (.fieldLink RX5 42 "MatchFindersModel" "thrown" "I") (by decide +kernel)
  have f45 := hts (.fieldLink RX5 45 "MatchFindersModel" "size" "I") (by decide +kernel)
  have f60 := hts (.fieldLink RX5 60 "MatchFindersModel" "ahead" "I") (by decide +kernel)
  refine lv_aload_n hx hb dX5_dictionary_0 rfl (lv_at hl 0 rfl) ?_
  refine lv_iconst (v := (nI 0)) hx hb dX5_dictionary_1 (by decide +kernel) ?_
  refine va_put (D := D) (ci := 5) (v := .int (nI 0)) (ty := .int) (C := RX5) (T := TX5) (N := 16) hx hb hts ziX5_dictionary_5 tyX5 tyX5_ok nmX5 hown hK hP (zk_D hD rfl) hS 0 rfl rfl 0 (by decide) f42 (fun _ h9 => h9) rfl (by decide +kernel) rfl rfl (Nat.le_of_ble_eq_true rfl) dX5_dictionary_2 (fun H locs hP _ hS => ?_)
  have hP : va_P D vwCl [(m_, .inr (5, [.int (nI 0), .int (nI sp), .int (nI dp), .ref mb, .int (nI sz), .int (nI ah), .ref mi, .ref mp, .ref m1, .ref m2, .ref m3, .ref mc, .ref ml, .int (nI bl), .int (nI bd), .int (nI rp)])), (mb, zk_a cI 360 B), (mi, zk_a cZ 4 im)] H := hP
  refine lv_aload_n hx hb dX5_dictionary_5 rfl (lv_at hl 0 rfl) ?_
  refine lv_aload_n hx hb dX5_dictionary_6 rfl (lv_at hl 0 rfl) ?_
  refine va_get (D := D) (ci := 5) (v := .int (nI sz)) (C := RX5) (T := TX5) (N := 16) hx hb hts ziX5_dictionary_5 hown hK hP 0 rfl rfl 4 (by decide) f45 (fun _ h9 => h9) rfl dX5_dictionary_7 ?_
  refine lv_bipush (v := (nI 60)) hx hb dX5_dictionary_10 (by decide +kernel) ?_
  refine zk_icmp_le (tgt := 20) hx hb (by omega) (by omega) dX5_dictionary_12 (by decide) (fun c_1 => ?_) (fun c_1 => ?_)
  · skip
    refine lv_aload_n hx hb dX5_dictionary_20 rfl (lv_at hl 0 rfl) ?_
    refine va_get (D := D) (ci := 5) (v := .int (nI sz)) (C := RX5) (T := TX5) (N := 16) hx hb hts ziX5_dictionary_5 hown hK hP 0 rfl rfl 4 (by decide) f45 (fun _ h9 => h9) rfl dX5_dictionary_21 ?_
    refine va_put (D := D) (ci := 5) (v := .int (nI sz)) (ty := .int) (C := RX5) (T := TX5) (N := 16) hx hb hts ziX5_dictionary_5 tyX5 tyX5_ok nmX5 hown hK hP (zk_D hD rfl) hS 0 rfl rfl 5 (by decide) f60 (fun _ h9 => h9) rfl (by decide +kernel) rfl rfl (Nat.le_of_ble_eq_true rfl) dX5_dictionary_24 (fun H locs hP _ hS => ?_)
    have hP : va_P D vwCl [(m_, .inr (5, [.int (nI 0), .int (nI sp), .int (nI dp), .ref mb, .int (nI sz), .int (nI sz), .ref mi, .ref mp, .ref m1, .ref m2, .ref m3, .ref mc, .ref ml, .int (nI bl), .int (nI bd), .int (nI rp)])), (mb, zk_a cI 360 B), (mi, zk_a cZ 4 im)] H := hP
    obtain ⟨ke, hke⟩ : ∃ z, z = min 60 sz := ⟨_, rfl⟩
    have hP : va_P D vwCl [(m_, .inr (5, [.int (nI 0), .int (nI sp), .int (nI dp), .ref mb, .int (nI sz), .int (nI ke), .ref mi, .ref mp, .ref m1, .ref m2, .ref m3, .ref mc, .ref ml, .int (nI bl), .int (nI bd), .int (nI rp)])), (mb, zk_a cI 360 B), (mi, zk_a cZ 4 im)] H := by rw [show ke = sz by omega]; exact hP
    refine lv_iconst (v := (nI 0)) hx hb dX5_dictionary_27 (by decide +kernel) ?_
    refine lv_istore_n (lv' := [(1, .int (nI 0)), (0, .ref m_)]) hx hb dX5_dictionary_28 rfl hl (by decide) rfl (fun ls hl => ?_)
    have hP : va_P D vwCl [(m_, .inr (5, [.int (nI 0), .int (nI sp), .int (nI dp), .ref mb, .int (nI sz), .int (nI ke), .ref mi, .ref mp, .ref m1, .ref m2, .ref m3, .ref mc, .ref ml, .int (nI bl), .int (nI bd), .int (nI rp)])), (mb, zk_a cI 360 (zr_mcp B (60 - ke) (60 + sz - ke) 0)), (mi, zk_a cZ 4 im)] H := by rw [zr_mcp_0]; exact hP
    have L29 : ∀ (n : Nat) (i : Nat) (ls : Array Slot) (H : Heap) (locs : List Loc), (i ≤ ke) → (ke - i) < n → va_P D vwCl [(m_, .inr (5, [.int (nI 0), .int (nI sp), .int (nI dp), .ref mb, .int (nI sz), .int (nI ke), .ref mi, .ref mp, .ref m1, .ref m2, .ref m3, .ref mc, .ref ml, .int (nI bl), .int (nI bd), .int (nI rp)])), (mb, zk_a cI 360 (zr_mcp B (60 - ke) (60 + sz - ke) i)), (mi, zk_a cZ 4 im)] H → va_S A s.heap H locs → lv_has ls 2 [(0, .ref m_), (1, .int (nI i))] → W p l e rmX5_dictionary s m args below meth c H locs 0 0 Q (F0 m 29 ls []) := by
      intro n
      induction n with
      | zero => intro i ls H locs g29_0 hm hP hS hl; exact absurd hm (by omega)
      | succ n ih29 =>
        intro i ls H locs g29_0 hm hP hS hl
        refine lv_iload_n hx hb dX5_dictionary_29 rfl (lv_at hl 1 rfl) ?_
        refine lv_aload_n hx hb dX5_dictionary_30 rfl (lv_at hl 0 rfl) ?_
        refine va_get (D := D) (ci := 5) (v := .int (nI ke)) (C := RX5) (T := TX5) (N := 16) hx hb hts ziX5_dictionary_5 hown hK hP 0 rfl rfl 5 (by decide) f60 (fun _ h9 => h9) rfl dX5_dictionary_31 ?_
        refine zk_icmp_ge (tgt := 76) hx hb (by omega) (by omega) dX5_dictionary_34 (by decide) (fun c_2 => ?_) (fun c_2 => ?_)
        · skip
          refine lv_aload_n hx hb dX5_dictionary_76 rfl (lv_at hl 0 rfl) ?_
          refine lv_iconst (v := (nI 0)) hx hb dX5_dictionary_77 (by decide +kernel) ?_
          refine va_put (D := D) (ci := 5) (v := .int (nI 0)) (ty := .int) (C := RX5) (T := TX5) (N := 16) hx hb hts ziX5_dictionary_5 tyX5 tyX5_ok nmX5 hown hK hP (zk_D hD rfl) hS 0 rfl rfl 4 (by decide) f45 (fun _ h9 => h9) rfl (by decide +kernel) rfl rfl (Nat.le_of_ble_eq_true rfl) dX5_dictionary_78 (fun H locs hP _ hS => ?_)
          have hP : va_P D vwCl [(m_, .inr (5, [.int (nI 0), .int (nI sp), .int (nI dp), .ref mb, .int (nI 0), .int (nI ke), .ref mi, .ref mp, .ref m1, .ref m2, .ref m3, .ref mc, .ref ml, .int (nI bl), .int (nI bd), .int (nI rp)])), (mb, zk_a cI 360 (zr_mcp B (60 - ke) (60 + sz - ke) i)), (mi, zk_a cZ 4 im)] H := hP
          refine lv_aload_n hx hb dX5_dictionary_81 rfl (lv_at hl 0 rfl) ?_
          refine zk_wrV (As := []) (rest := []) ⟨hx, hb, hml, hown, hts⟩ hN (c_forget l D cI cZ cR m_ 0 sp dp mb 0 ke mi mp m1 m2 m3 mc ml bl bd rp im) (cwV 0 hts gX5_dictionary_X5_forget rfl rfl rfl (by decide +kernel) ⟨Nat.le_of_ble_eq_true rfl, Nat.le_of_ble_eq_true rfl⟩) hK hP (zk_D hD rfl) hS hA [0, 2] rfl (by decide) (fun _ => rfl) rfl rfl rfl rfl hl.1 rfl (Nat.le_of_ble_eq_true rfl) dX5_dictionary_82 ⟨Nat.zero_le _, Nat.zero_le _⟩ (fun u H locs hu2 hP hS => ?_)
          have hP : va_P D vwCl [(m_, .inr (5, [.int (nI 0), .int (nI sp), .int (nI dp), .ref mb, .int (nI 0), .int (nI ke), .ref mi, .ref mp, .ref m1, .ref m2, .ref m3, .ref mc, .ref ml, .int (nI bl), .int (nI bd), .int (nI rp)])), (mb, zk_a cI 360 (zr_mcp B (60 - ke) (60 + sz - ke) i)), (mi, zk_a cZ 4 (zk_z4 im))] H := hP
          refine lv_aload_n hx hb dX5_dictionary_85 rfl (lv_at hl 0 rfl) ?_
          refine va_get (D := D) (ci := 5) (v := .int (nI ke)) (C := RX5) (T := TX5) (N := 16) hx hb hts ziX5_dictionary_5 hown hK hP 0 rfl rfl 5 (by decide) f60 (fun _ h9 => h9) rfl dX5_dictionary_86 ?_
          exact hret _ ls _ _ _ () dX5_dictionary_89 (by rw [hke]) (by rw [show i = ke by omega, hke] at hP; exact hP) hS
        · skip
          refine lv_aload_n hx hb dX5_dictionary_37 rfl (lv_at hl 0 rfl) ?_
          refine va_get (D := D) (ci := 5) (v := .ref mb) (C := RX5) (T := TX5) (N := 16) hx hb hts ziX5_dictionary_5 hown hK hP 0 rfl rfl 3 (by decide) f7 (fun _ h9 => h9) rfl dX5_dictionary_38 ?_
          refine lv_bipush (v := (nI 60)) hx hb dX5_dictionary_41 (by decide +kernel) ?_
          refine lv_aload_n hx hb dX5_dictionary_43 rfl (lv_at hl 0 rfl) ?_
          refine va_get (D := D) (ci := 5) (v := .int (nI ke)) (C := RX5) (T := TX5) (N := 16) hx hb hts ziX5_dictionary_5 hown hK hP 0 rfl rfl 5 (by decide) f60 (fun _ h9 => h9) rfl dX5_dictionary_44 ?_
          refine zk_sub (v := 60 - ke) hx hb (by omega) dX5_dictionary_47 ?_
          refine lv_iload_n hx hb dX5_dictionary_48 rfl (lv_at hl 1 rfl) ?_
          refine zk_add (v := (60 - ke) + i) hx hb (rfl) dX5_dictionary_49 ?_
          refine lv_aload_n hx hb dX5_dictionary_50 rfl (lv_at hl 0 rfl) ?_
          refine va_get (D := D) (ci := 5) (v := .ref mb) (C := RX5) (T := TX5) (N := 16) hx hb hts ziX5_dictionary_5 hown hK hP 0 rfl rfl 3 (by decide) f7 (fun _ h9 => h9) rfl dX5_dictionary_51 ?_
          refine lv_bipush (v := (nI 60)) hx hb dX5_dictionary_54 (by decide +kernel) ?_
          refine lv_aload_n hx hb dX5_dictionary_56 rfl (lv_at hl 0 rfl) ?_
          refine va_get (D := D) (ci := 5) (v := .int (nI sz)) (C := RX5) (T := TX5) (N := 16) hx hb hts ziX5_dictionary_5 hown hK hP 0 rfl rfl 4 (by decide) f45 (fun _ h9 => h9) rfl dX5_dictionary_57 ?_
          refine zk_add (v := 60 + sz) hx hb (rfl) dX5_dictionary_60 ?_
          refine lv_aload_n hx hb dX5_dictionary_61 rfl (lv_at hl 0 rfl) ?_
          refine va_get (D := D) (ci := 5) (v := .int (nI ke)) (C := RX5) (T := TX5) (N := 16) hx hb hts ziX5_dictionary_5 hown hK hP 0 rfl rfl 5 (by decide) f60 (fun _ h9 => h9) rfl dX5_dictionary_62 ?_
          refine zk_sub (v := 60 + sz - ke) hx hb (by omega) dX5_dictionary_65 ?_
          refine lv_iload_n hx hb dX5_dictionary_66 rfl (lv_at hl 1 rfl) ?_
          refine zk_add (v := (60 + sz - ke) + i) hx hb (rfl) dX5_dictionary_67 ?_
          refine zk_ild (v := (zr_mcp B (60 - ke) (60 + sz - ke) i) ((60 + sz - ke) + i)) hx hb hK hP 1 0 (i := (60 + sz - ke) + i) (g := zr_mcp B (60 - ke) (60 + sz - ke) i) rfl rfl (by omega) (by decide) rfl dX5_dictionary_68 ?_
          refine zk_ist (i := (60 - ke) + i) (x := (zr_mcp B (60 - ke) (60 + sz - ke) i) ((60 + sz - ke) + i)) (g := zr_mcp B (60 - ke) (60 + sz - ke) i) hx hb hK hP (zk_D hD rfl) hS 1 0 rfl rfl (by omega) (by decide) dX5_dictionary_69 (fun H locs hP hS => ?_)
          have hP : va_P D vwCl [(m_, .inr (5, [.int (nI 0), .int (nI sp), .int (nI dp), .ref mb, .int (nI sz), .int (nI ke), .ref mi, .ref mp, .ref m1, .ref m2, .ref m3, .ref mc, .ref ml, .int (nI bl), .int (nI bd), .int (nI rp)])), (mb, zk_a cI 360 (zk_up (zr_mcp B (60 - ke) (60 + sz - ke) i) ((60 - ke) + i) ((zr_mcp B (60 - ke) (60 + sz - ke) i) ((60 + sz - ke) + i)))), (mi, zk_a cZ 4 im)] H := hP
          rw [zr_mcp_s (by omega)] at hP
          have hP : va_P D vwCl [(m_, .inr (5, [.int (nI 0), .int (nI sp), .int (nI dp), .ref mb, .int (nI sz), .int (nI ke), .ref mi, .ref mp, .ref m1, .ref m2, .ref m3, .ref mc, .ref ml, .int (nI bl), .int (nI bd), .int (nI rp)])), (mb, zk_a cI 360 (zr_mcp B (60 - ke) (60 + sz - ke) (i + 1))), (mi, zk_a cZ 4 im)] H := hP
          refine lv_iinc (v := (nI (i + 1))) (lv' := [(1, .int (nI (i + 1))), (0, .ref m_)]) hx hb dX5_dictionary_70 hl (k := 1) rfl (by rw [show Int32.ofInt 1 = (1 : Int32) from rfl, nI_1]) (by decide) rfl (fun ls hl => ?_)
          refine lv_goto (tgt := 29) hx hb dX5_dictionary_73 (by decide) ?_
          exact ih29 (i + 1) ls _ _ (by omega) (by omega) hP hS (lv_sub hl [1, 0] rfl)
    exact L29 (ke - 0 + 1) 0 ls _ _ (by omega) (by omega) hP hS (lv_sub hl [1, 0] rfl)
  · skip
    refine lv_bipush (v := (nI 60)) hx hb dX5_dictionary_15 (by decide +kernel) ?_
    refine lv_goto (tgt := 24) hx hb dX5_dictionary_17 (by decide) ?_
    refine va_put (D := D) (ci := 5) (v := .int (nI 60)) (ty := .int) (C := RX5) (T := TX5) (N := 16) hx hb hts ziX5_dictionary_5 tyX5 tyX5_ok nmX5 hown hK hP (zk_D hD rfl) hS 0 rfl rfl 5 (by decide) f60 (fun _ h9 => h9) rfl (by decide +kernel) rfl rfl (Nat.le_of_ble_eq_true rfl) dX5_dictionary_24 (fun H locs hP _ hS => ?_)
    have hP : va_P D vwCl [(m_, .inr (5, [.int (nI 0), .int (nI sp), .int (nI dp), .ref mb, .int (nI sz), .int (nI 60), .ref mi, .ref mp, .ref m1, .ref m2, .ref m3, .ref mc, .ref ml, .int (nI bl), .int (nI bd), .int (nI rp)])), (mb, zk_a cI 360 B), (mi, zk_a cZ 4 im)] H := hP
    obtain ⟨ke, hke⟩ : ∃ z, z = min 60 sz := ⟨_, rfl⟩
    have hP : va_P D vwCl [(m_, .inr (5, [.int (nI 0), .int (nI sp), .int (nI dp), .ref mb, .int (nI sz), .int (nI ke), .ref mi, .ref mp, .ref m1, .ref m2, .ref m3, .ref mc, .ref ml, .int (nI bl), .int (nI bd), .int (nI rp)])), (mb, zk_a cI 360 B), (mi, zk_a cZ 4 im)] H := by rw [show ke = 60 by omega]; exact hP
    refine lv_iconst (v := (nI 0)) hx hb dX5_dictionary_27 (by decide +kernel) ?_
    refine lv_istore_n (lv' := [(1, .int (nI 0)), (0, .ref m_)]) hx hb dX5_dictionary_28 rfl hl (by decide) rfl (fun ls hl => ?_)
    have hP : va_P D vwCl [(m_, .inr (5, [.int (nI 0), .int (nI sp), .int (nI dp), .ref mb, .int (nI sz), .int (nI ke), .ref mi, .ref mp, .ref m1, .ref m2, .ref m3, .ref mc, .ref ml, .int (nI bl), .int (nI bd), .int (nI rp)])), (mb, zk_a cI 360 (zr_mcp B (60 - ke) (60 + sz - ke) 0)), (mi, zk_a cZ 4 im)] H := by rw [zr_mcp_0]; exact hP
    have L29 : ∀ (n : Nat) (i : Nat) (ls : Array Slot) (H : Heap) (locs : List Loc), (i ≤ ke) → (ke - i) < n → va_P D vwCl [(m_, .inr (5, [.int (nI 0), .int (nI sp), .int (nI dp), .ref mb, .int (nI sz), .int (nI ke), .ref mi, .ref mp, .ref m1, .ref m2, .ref m3, .ref mc, .ref ml, .int (nI bl), .int (nI bd), .int (nI rp)])), (mb, zk_a cI 360 (zr_mcp B (60 - ke) (60 + sz - ke) i)), (mi, zk_a cZ 4 im)] H → va_S A s.heap H locs → lv_has ls 2 [(0, .ref m_), (1, .int (nI i))] → W p l e rmX5_dictionary s m args below meth c H locs 0 0 Q (F0 m 29 ls []) := by
      intro n
      induction n with
      | zero => intro i ls H locs g29_0 hm hP hS hl; exact absurd hm (by omega)
      | succ n ih29 =>
        intro i ls H locs g29_0 hm hP hS hl
        refine lv_iload_n hx hb dX5_dictionary_29 rfl (lv_at hl 1 rfl) ?_
        refine lv_aload_n hx hb dX5_dictionary_30 rfl (lv_at hl 0 rfl) ?_
        refine va_get (D := D) (ci := 5) (v := .int (nI ke)) (C := RX5) (T := TX5) (N := 16) hx hb hts ziX5_dictionary_5 hown hK hP 0 rfl rfl 5 (by decide) f60 (fun _ h9 => h9) rfl dX5_dictionary_31 ?_
        refine zk_icmp_ge (tgt := 76) hx hb (by omega) (by omega) dX5_dictionary_34 (by decide) (fun c_3 => ?_) (fun c_3 => ?_)
        · skip
          refine lv_aload_n hx hb dX5_dictionary_76 rfl (lv_at hl 0 rfl) ?_
          refine lv_iconst (v := (nI 0)) hx hb dX5_dictionary_77 (by decide +kernel) ?_
          refine va_put (D := D) (ci := 5) (v := .int (nI 0)) (ty := .int) (C := RX5) (T := TX5) (N := 16) hx hb hts ziX5_dictionary_5 tyX5 tyX5_ok nmX5 hown hK hP (zk_D hD rfl) hS 0 rfl rfl 4 (by decide) f45 (fun _ h9 => h9) rfl (by decide +kernel) rfl rfl (Nat.le_of_ble_eq_true rfl) dX5_dictionary_78 (fun H locs hP _ hS => ?_)
          have hP : va_P D vwCl [(m_, .inr (5, [.int (nI 0), .int (nI sp), .int (nI dp), .ref mb, .int (nI 0), .int (nI ke), .ref mi, .ref mp, .ref m1, .ref m2, .ref m3, .ref mc, .ref ml, .int (nI bl), .int (nI bd), .int (nI rp)])), (mb, zk_a cI 360 (zr_mcp B (60 - ke) (60 + sz - ke) i)), (mi, zk_a cZ 4 im)] H := hP
          refine lv_aload_n hx hb dX5_dictionary_81 rfl (lv_at hl 0 rfl) ?_
          refine zk_wrV (As := []) (rest := []) ⟨hx, hb, hml, hown, hts⟩ hN (c_forget l D cI cZ cR m_ 0 sp dp mb 0 ke mi mp m1 m2 m3 mc ml bl bd rp im) (cwV 0 hts gX5_dictionary_X5_forget rfl rfl rfl (by decide +kernel) ⟨Nat.le_of_ble_eq_true rfl, Nat.le_of_ble_eq_true rfl⟩) hK hP (zk_D hD rfl) hS hA [0, 2] rfl (by decide) (fun _ => rfl) rfl rfl rfl rfl hl.1 rfl (Nat.le_of_ble_eq_true rfl) dX5_dictionary_82 ⟨Nat.zero_le _, Nat.zero_le _⟩ (fun u H locs hu2 hP hS => ?_)
          have hP : va_P D vwCl [(m_, .inr (5, [.int (nI 0), .int (nI sp), .int (nI dp), .ref mb, .int (nI 0), .int (nI ke), .ref mi, .ref mp, .ref m1, .ref m2, .ref m3, .ref mc, .ref ml, .int (nI bl), .int (nI bd), .int (nI rp)])), (mb, zk_a cI 360 (zr_mcp B (60 - ke) (60 + sz - ke) i)), (mi, zk_a cZ 4 (zk_z4 im))] H := hP
          refine lv_aload_n hx hb dX5_dictionary_85 rfl (lv_at hl 0 rfl) ?_
          refine va_get (D := D) (ci := 5) (v := .int (nI ke)) (C := RX5) (T := TX5) (N := 16) hx hb hts ziX5_dictionary_5 hown hK hP 0 rfl rfl 5 (by decide) f60 (fun _ h9 => h9) rfl dX5_dictionary_86 ?_
          exact hret _ ls _ _ _ () dX5_dictionary_89 (by rw [hke]) (by rw [show i = ke by omega, hke] at hP; exact hP) hS
        · skip
          refine lv_aload_n hx hb dX5_dictionary_37 rfl (lv_at hl 0 rfl) ?_
          refine va_get (D := D) (ci := 5) (v := .ref mb) (C := RX5) (T := TX5) (N := 16) hx hb hts ziX5_dictionary_5 hown hK hP 0 rfl rfl 3 (by decide) f7 (fun _ h9 => h9) rfl dX5_dictionary_38 ?_
          refine lv_bipush (v := (nI 60)) hx hb dX5_dictionary_41 (by decide +kernel) ?_
          refine lv_aload_n hx hb dX5_dictionary_43 rfl (lv_at hl 0 rfl) ?_
          refine va_get (D := D) (ci := 5) (v := .int (nI ke)) (C := RX5) (T := TX5) (N := 16) hx hb hts ziX5_dictionary_5 hown hK hP 0 rfl rfl 5 (by decide) f60 (fun _ h9 => h9) rfl dX5_dictionary_44 ?_
          refine zk_sub (v := 60 - ke) hx hb (by omega) dX5_dictionary_47 ?_
          refine lv_iload_n hx hb dX5_dictionary_48 rfl (lv_at hl 1 rfl) ?_
          refine zk_add (v := (60 - ke) + i) hx hb (rfl) dX5_dictionary_49 ?_
          refine lv_aload_n hx hb dX5_dictionary_50 rfl (lv_at hl 0 rfl) ?_
          refine va_get (D := D) (ci := 5) (v := .ref mb) (C := RX5) (T := TX5) (N := 16) hx hb hts ziX5_dictionary_5 hown hK hP 0 rfl rfl 3 (by decide) f7 (fun _ h9 => h9) rfl dX5_dictionary_51 ?_
          refine lv_bipush (v := (nI 60)) hx hb dX5_dictionary_54 (by decide +kernel) ?_
          refine lv_aload_n hx hb dX5_dictionary_56 rfl (lv_at hl 0 rfl) ?_
          refine va_get (D := D) (ci := 5) (v := .int (nI sz)) (C := RX5) (T := TX5) (N := 16) hx hb hts ziX5_dictionary_5 hown hK hP 0 rfl rfl 4 (by decide) f45 (fun _ h9 => h9) rfl dX5_dictionary_57 ?_
          refine zk_add (v := 60 + sz) hx hb (rfl) dX5_dictionary_60 ?_
          refine lv_aload_n hx hb dX5_dictionary_61 rfl (lv_at hl 0 rfl) ?_
          refine va_get (D := D) (ci := 5) (v := .int (nI ke)) (C := RX5) (T := TX5) (N := 16) hx hb hts ziX5_dictionary_5 hown hK hP 0 rfl rfl 5 (by decide) f60 (fun _ h9 => h9) rfl dX5_dictionary_62 ?_
          refine zk_sub (v := 60 + sz - ke) hx hb (by omega) dX5_dictionary_65 ?_
          refine lv_iload_n hx hb dX5_dictionary_66 rfl (lv_at hl 1 rfl) ?_
          refine zk_add (v := (60 + sz - ke) + i) hx hb (rfl) dX5_dictionary_67 ?_
          refine zk_ild (v := (zr_mcp B (60 - ke) (60 + sz - ke) i) ((60 + sz - ke) + i)) hx hb hK hP 1 0 (i := (60 + sz - ke) + i) (g := zr_mcp B (60 - ke) (60 + sz - ke) i) rfl rfl (by omega) (by decide) rfl dX5_dictionary_68 ?_
          refine zk_ist (i := (60 - ke) + i) (x := (zr_mcp B (60 - ke) (60 + sz - ke) i) ((60 + sz - ke) + i)) (g := zr_mcp B (60 - ke) (60 + sz - ke) i) hx hb hK hP (zk_D hD rfl) hS 1 0 rfl rfl (by omega) (by decide) dX5_dictionary_69 (fun H locs hP hS => ?_)
          have hP : va_P D vwCl [(m_, .inr (5, [.int (nI 0), .int (nI sp), .int (nI dp), .ref mb, .int (nI sz), .int (nI ke), .ref mi, .ref mp, .ref m1, .ref m2, .ref m3, .ref mc, .ref ml, .int (nI bl), .int (nI bd), .int (nI rp)])), (mb, zk_a cI 360 (zk_up (zr_mcp B (60 - ke) (60 + sz - ke) i) ((60 - ke) + i) ((zr_mcp B (60 - ke) (60 + sz - ke) i) ((60 + sz - ke) + i)))), (mi, zk_a cZ 4 im)] H := hP
          rw [zr_mcp_s (by omega)] at hP
          have hP : va_P D vwCl [(m_, .inr (5, [.int (nI 0), .int (nI sp), .int (nI dp), .ref mb, .int (nI sz), .int (nI ke), .ref mi, .ref mp, .ref m1, .ref m2, .ref m3, .ref mc, .ref ml, .int (nI bl), .int (nI bd), .int (nI rp)])), (mb, zk_a cI 360 (zr_mcp B (60 - ke) (60 + sz - ke) (i + 1))), (mi, zk_a cZ 4 im)] H := hP
          refine lv_iinc (v := (nI (i + 1))) (lv' := [(1, .int (nI (i + 1))), (0, .ref m_)]) hx hb dX5_dictionary_70 hl (k := 1) rfl (by rw [show Int32.ofInt 1 = (1 : Int32) from rfl, nI_1]) (by decide) rfl (fun ls hl => ?_)
          refine lv_goto (tgt := 29) hx hb dX5_dictionary_73 (by decide) ?_
          exact ih29 (i + 1) ls _ _ (by omega) (by omega) hP hS (lv_sub hl [1, 0] rfl)
    exact L29 (ke - 0 + 1) 0 ls _ _ (by omega) (by omega) hP hS (lv_sub hl [1, 0] rfl)
def rmX5_fill : Room := { frames := 1, cells := 0, slots := 0, locals := 22 }
set_option maxRecDepth 20000 in
theorem ziX5_fill_5 : ∀ w ∈ wsX50, w ∈ wsX5_fill := by decide +kernel
set_option maxHeartbeats 4000000 in
set_option maxRecDepth 100000 in
/-- fill of the reference -/
theorem c_mfill (l : Launch) (D : va_G) (cI cZ cR : ClassId) (m_ : Nat) (tw : Nat) (sp : Nat) (dp : Nat) (mb : Nat) (sz : Nat) (ah : Nat) (mi : Nat) (mp : Nat) (m1 : Nat) (m2 : Nat) (m3 : Nat) (mc : Nat) (ml : Nat) (bl : Nat) (bd : Nat) (rp : Nat) (B : Nat → Nat) (im : Nat → Nat) (pc : Nat → Nat) (P1 : Nat → Nat) (P2 : Nat → Nat) (P3 : Nat → Nat) (n_ : Int32) (s_ : Int32) (o_ : Int32) (h0 : ah ≤ 60) (h1 : sz ≤ 300) (h2 : ∀ j, B j < 256) (h3 : zr_mrows (zr_v B ah) ah sz sp dp im pc P1 P2 P3) : zk_Wi l yX5_fill wsX5_fill rmX5_fill D (zk_t cI cZ cR) [.ref m_, .int n_, .int s_, .int o_] [(m_, .inr (5, [.int (nI tw), .int (nI sp), .int (nI dp), .ref mb, .int (nI sz), .int (nI ah), .ref mi, .ref mp, .ref m1, .ref m2, .ref m3, .ref mc, .ref ml, .int (nI bl), .int (nI bd), .int (nI rp)])), (mb, zk_a cI 360 B), (mi, zk_a cZ 4 im)] (fun (r : Int32) (u : (Nat → Nat) × Nat × Nat × (Nat → Nat)) => match u with | (B2, ah2, sz2, im2) => zT_fill n_ s_ o_ (zr_v B ah) ah sz = (r, zr_v B2 ah2, ah2, sz2) ∧ (∀ j, B2 j < 256) ∧ zr_mrows (zr_v B2 ah2) ah2 sz2 sp dp im2 pc P1 P2 P3) (fun u => match u with | (B2, ah2, sz2, im2) => [(m_, .inr (5, [.int (nI 0), .int (nI sp), .int (nI dp), .ref mb, .int (nI sz2), .int (nI ah2), .ref mi, .ref mp, .ref m1, .ref m2, .ref m3, .ref mc, .ref ml, .int (nI bl), .int (nI bd), .int (nI rp)])), (mb, zk_a cI 360 B2), (mi, zk_a cZ 4 im2)]) := by
  refine zk_enterI RX5 cX5_fill 8 (by decide) rfl rfl (Nat.le_of_ble_eq_true rfl) ?_
  intro p e s m args below meth c ls A Q hx hb hml hown hts hP hK hD hN hl hA hS hret
  have hl : lv_has ls 8 [(0, .ref m_), (1, .int n_), (2, .int s_), (3, .int o_)] := hl
  have f7 := hts (.fieldLink RX5 7 "MatchFindersModel" "bytes" "[I") (by decide +kernel)
  have f42 := hts (.fieldLink RX5 42 "MatchFindersModel" "thrown" "I") (by decide +kernel)
  have f45 := hts (.fieldLink RX5 45 "MatchFindersModel" "size" "I") (by decide +kernel)
  refine lv_aload_n hx hb dX5_fill_0 rfl (lv_at hl 0 rfl) ?_
  refine lv_iconst (v := (nI 0)) hx hb dX5_fill_1 (by decide +kernel) ?_
  refine va_put (D := D) (ci := 5) (v := .int (nI 0)) (ty := .int) (C := RX5) (T := TX5) (N := 16) hx hb hts ziX5_fill_5 tyX5 tyX5_ok nmX5 hown hK hP (zk_D hD rfl) hS 0 rfl rfl 0 (by decide) f42 (fun _ h9 => h9) rfl (by decide +kernel) rfl rfl (Nat.le_of_ble_eq_true rfl) dX5_fill_2 (fun H locs hP _ hS => ?_)
  have hP : va_P D vwCl [(m_, .inr (5, [.int (nI 0), .int (nI sp), .int (nI dp), .ref mb, .int (nI sz), .int (nI ah), .ref mi, .ref mp, .ref m1, .ref m2, .ref m3, .ref mc, .ref ml, .int (nI bl), .int (nI bd), .int (nI rp)])), (mb, zk_a cI 360 B), (mi, zk_a cZ 4 im)] H := hP
  refine lv_iload_n hx hb dX5_fill_5 rfl (lv_at hl 1 rfl) ?_
  refine lv_iconst (v := (nI 1)) hx hb dX5_fill_6 (by decide +kernel) ?_
  refine lv_sipush (v := (nI 300)) hx hb dX5_fill_7 (by decide +kernel) ?_
  refine zk_rdS (As := [.int n_, .int (nI 1), .int (nI 300)]) (rest := []) ⟨hx, hb, hml, hown, hts⟩ hN (c_in l D cI cZ cR n_ (nI 1) (nI 300)) (va_cwS 3 hts gX5_fill_X5_in rfl rfl rfl (by decide +kernel) ⟨Nat.le_of_ble_eq_true rfl, Nat.le_of_ble_eq_true rfl⟩) hK hP (zk_D hD rfl) [] rfl (by decide) rfl hl.1 rfl (Nat.le_of_ble_eq_true rfl) dX5_fill_10 ⟨Nat.zero_le _, Nat.zero_le _⟩ ?_
  refine lv_if_eq (tgt := 25) hx hb dX5_fill_13 (by decide) (fun c_1 => ?_) (fun c_1 => ?_)
  · skip
    have hn0 := zk_in0 (lo := 1) (hi := 300) c_1
    refine lv_bipush (v := (-2)) hx hb dX5_fill_25 (by decide +kernel) ?_
    exact hret _ ls _ _ _ (B, ah, sz, im) dX5_fill_27 ⟨by rw [zT_fill]; exact zk_fno hn0, h2, h3⟩ hP hS
  · skip
    obtain ⟨nn, hn1, hn2, hne⟩ := zk_in2 (lo := 1) (hi := 300) (by decide) (by decide) c_1
    subst hne
    refine lv_iload_n hx hb dX5_fill_16 rfl (lv_at hl 3 rfl) ?_
    refine lv_iconst (v := (nI 0)) hx hb dX5_fill_17 (by decide +kernel) ?_
    refine lv_iconst (v := (nI 2)) hx hb dX5_fill_18 (by decide +kernel) ?_
    refine zk_rdS (As := [.int o_, .int (nI 0), .int (nI 2)]) (rest := []) ⟨hx, hb, hml, hown, hts⟩ hN (c_in l D cI cZ cR o_ (nI 0) (nI 2)) (va_cwS 3 hts gX5_fill_X5_in rfl rfl rfl (by decide +kernel) ⟨Nat.le_of_ble_eq_true rfl, Nat.le_of_ble_eq_true rfl⟩) hK hP (zk_D hD rfl) [] rfl (by decide) rfl hl.1 rfl (Nat.le_of_ble_eq_true rfl) dX5_fill_19 ⟨Nat.zero_le _, Nat.zero_le _⟩ ?_
    refine lv_if_ne (tgt := 28) hx hb dX5_fill_22 (by decide) (fun c_2 => ?_) (fun c_2 => ?_)
    · skip
      obtain ⟨oo, ho1, ho, hoe⟩ := zk_in2 (lo := 0) (hi := 2) (by decide) (by decide) c_2
      subst hoe
      refine lv_aload_n hx hb dX5_fill_28 rfl (lv_at hl 0 rfl) ?_
      refine va_get (D := D) (ci := 5) (v := .int (nI sz)) (C := RX5) (T := TX5) (N := 16) hx hb hts ziX5_fill_5 hown hK hP 0 rfl rfl 4 (by decide) f45 (fun _ h9 => h9) rfl dX5_fill_29 ?_
      refine lv_iload_n hx hb dX5_fill_32 rfl (lv_at hl 1 rfl) ?_
      refine zk_add (v := sz + nn) hx hb (rfl) dX5_fill_33 ?_
      refine lv_sipush (v := (nI 300)) hx hb dX5_fill_34 (by decide +kernel) ?_
      refine zk_icmp_le (tgt := 43) hx hb (by omega) (by omega) dX5_fill_37 (by decide) (fun c_3 => ?_) (fun c_3 => ?_)
      · skip
        refine lv_iload_n hx hb dX5_fill_43 rfl (lv_at hl 2 rfl) ?_
        refine lv_istore (lv' := [(4, .int s_), (0, .ref m_), (1, .int (nI nn)), (2, .int s_), (3, .int (nI oo))]) hx hb dX5_fill_44 hl (by decide) rfl (fun ls hl => ?_)
        refine lv_iconst (v := (nI 1)) hx hb dX5_fill_46 (by decide +kernel) ?_
        refine lv_iload_n hx hb dX5_fill_47 rfl (lv_at hl 3 rfl) ?_
        refine lv_bipush (v := (nI 27)) hx hb dX5_fill_48 (by decide +kernel) ?_
        refine lv_iushr hx hb dX5_fill_50 (zr_ush27 s_) ?_
        have hbk := zr_bk_lt s_
        refine zk_add (v := 1 + (s_.toBitVec.toNat / 134217728)) hx hb (rfl) dX5_fill_51 ?_
        refine zk_nm (fun bk h_bk => ?_)
        refine lv_istore (lv' := [(5, .int (nI bk)), (4, .int s_), (0, .ref m_), (1, .int (nI nn)), (2, .int s_), (3, .int (nI oo))]) hx hb dX5_fill_52 hl (by decide) rfl (fun ls hl => ?_)
        refine lv_iconst (v := (nI 0)) hx hb dX5_fill_54 (by decide +kernel) ?_
        refine lv_istore (lv' := [(6, .int (nI 0)), (5, .int (nI bk)), (4, .int s_), (0, .ref m_), (1, .int (nI nn)), (2, .int s_), (3, .int (nI oo))]) hx hb dX5_fill_55 hl (by decide) rfl (fun ls hl => ?_)
        have hP : va_P D vwCl [(m_, .inr (5, [.int (nI 0), .int (nI sp), .int (nI dp), .ref mb, .int (nI (sz + 0)), .int (nI ah), .ref mi, .ref mp, .ref m1, .ref m2, .ref m3, .ref mc, .ref ml, .int (nI bl), .int (nI bd), .int (nI rp)])), (mb, zk_a cI 360 B), (mi, zk_a cZ 4 im)] H := hP
        have L57 : ∀ (n : Nat) (i : Nat) (xx : Int32) (B1 : Nat → Nat) (ls : Array Slot) (H : Heap) (locs : List Loc), (i ≤ nn) → (zr_fl oo bk ah (nn - i) xx (zr_v B1 ah) (sz + i) = (zr_fl oo bk ah nn s_ (zr_v B ah) sz)) → (∀ j, B1 j < 256) → (nn - i) < n → va_P D vwCl [(m_, .inr (5, [.int (nI 0), .int (nI sp), .int (nI dp), .ref mb, .int (nI (sz + i)), .int (nI ah), .ref mi, .ref mp, .ref m1, .ref m2, .ref m3, .ref mc, .ref ml, .int (nI bl), .int (nI bd), .int (nI rp)])), (mb, zk_a cI 360 B1), (mi, zk_a cZ 4 im)] H → va_S A s.heap H locs → lv_has ls 8 [(0, .ref m_), (1, .int (nI nn)), (2, .int s_), (3, .int (nI oo)), (4, .int xx), (5, .int (nI bk)), (6, .int (nI i))] → W p l e rmX5_fill s m args below meth c H locs 0 0 Q (F0 m 57 ls []) := by
          intro n
          induction n with
          | zero => intro i xx B1 ls H locs g57_0 g57_1 g57_2 hm hP hS hl; exact absurd hm (by omega)
          | succ n ih57 =>
            intro i xx B1 ls H locs g57_0 g57_1 g57_2 hm hP hS hl
            refine lv_iload hx hb dX5_fill_57 (lv_at hl 6 rfl) ?_
            refine lv_iload_n hx hb dX5_fill_59 rfl (lv_at hl 1 rfl) ?_
            refine zk_icmp_ge (tgt := 155) hx hb (by omega) (by omega) dX5_fill_60 (by decide) (fun c_4 => ?_) (fun c_4 => ?_)
            · skip
              refine lv_aload_n hx hb dX5_fill_155 rfl (lv_at hl 0 rfl) ?_
              refine zk_wrV (As := []) (rest := []) ⟨hx, hb, hml, hown, hts⟩ hN (c_forget l D cI cZ cR m_ 0 sp dp mb (sz + i) ah mi mp m1 m2 m3 mc ml bl bd rp im) (cwV 0 hts gX5_fill_X5_forget rfl rfl rfl (by decide +kernel) ⟨Nat.le_of_ble_eq_true rfl, Nat.le_of_ble_eq_true rfl⟩) hK hP (zk_D hD rfl) hS hA [0, 2] rfl (by decide) (fun _ => rfl) rfl rfl rfl rfl hl.1 rfl (Nat.le_of_ble_eq_true rfl) dX5_fill_156 ⟨Nat.zero_le _, Nat.zero_le _⟩ (fun u H locs hu2 hP hS => ?_)
              have hP : va_P D vwCl [(m_, .inr (5, [.int (nI 0), .int (nI sp), .int (nI dp), .ref mb, .int (nI (sz + i)), .int (nI ah), .ref mi, .ref mp, .ref m1, .ref m2, .ref m3, .ref mc, .ref ml, .int (nI bl), .int (nI bd), .int (nI rp)])), (mb, zk_a cI 360 B1), (mi, zk_a cZ 4 (zk_z4 im))] H := hP
              refine lv_aload_n hx hb dX5_fill_159 rfl (lv_at hl 0 rfl) ?_
              refine va_get (D := D) (ci := 5) (v := .int (nI (sz + i))) (C := RX5) (T := TX5) (N := 16) hx hb hts ziX5_fill_5 hown hK hP 0 rfl rfl 4 (by decide) f45 (fun _ h9 => h9) rfl dX5_fill_160 ?_
              exact hret _ ls _ _ _ (B1, ah, sz + i, zk_z4 im) dX5_fill_163 ⟨by rw [zT_fill, if_neg (zk_nlt1 hn1 hn2), if_neg (nI_nlt hn2 (by decide)), zk_win ho (by decide), nI_clamp (show nn < 2 ^ 31 by omega), if_pos (by omega), nI_clamp (show oo < 2 ^ 31 by omega), ← h_bk, ← g57_1, show nn - i = 0 by omega, show i = nn by omega]; rfl, g57_2, zr_mrows_0⟩ hP hS
            · skip
              refine lv_iload hx hb dX5_fill_63 (lv_at hl 4 rfl) ?_
              refine lv_ldc hx hb hown (hts (.constant RX5 59 (1103515245)) (by decide +kernel)) dX5_fill_65 ?_
              refine lv_imul hx hb dX5_fill_67 ?_
              refine lv_sipush (v := (nI 12345)) hx hb dX5_fill_68 (by decide +kernel) ?_
              refine lv_iadd hx hb dX5_fill_71 ?_
              refine zk_top (v := zr_nx xx) rfl ?_
              refine lv_istore (lv' := [(4, .int (zr_nx xx)), (0, .ref m_), (1, .int (nI nn)), (2, .int s_), (3, .int (nI oo)), (5, .int (nI bk)), (6, .int (nI i))]) hx hb dX5_fill_72 hl (by decide) rfl (fun ls hl => ?_)
              refine lv_iload hx hb dX5_fill_74 (lv_at hl 0 rfl) ?_
              refine lv_bipush (v := (nI 16)) hx hb dX5_fill_76 (by decide +kernel) ?_
              refine lv_iushr hx hb dX5_fill_78 (zr_ush16 (zr_nx xx)) ?_
              have hz16 := zr_hi_lt (zr_nx xx)
              refine lv_istore (lv' := [(7, .int (nI (zr_hi (zr_nx xx)))), (4, .int (zr_nx xx)), (0, .ref m_), (1, .int (nI nn)), (2, .int s_), (3, .int (nI oo)), (5, .int (nI bk)), (6, .int (nI i))]) hx hb dX5_fill_79 hl (by decide) rfl (fun ls hl => ?_)
              refine lv_aload_n hx hb dX5_fill_81 rfl (lv_at hl 2 rfl) ?_
              refine lv_iload_n hx hb dX5_fill_82 rfl (lv_at hl 5 rfl) ?_
              refine zk_if_ne (tgt := 95) hx hb (by omega) dX5_fill_83 (by decide) (fun c_5 => ?_) (fun c_5 => ?_)
              · skip
                refine lv_iload_n hx hb dX5_fill_95 rfl (lv_at hl 5 rfl) ?_
                refine lv_iconst (v := (nI 1)) hx hb dX5_fill_96 (by decide +kernel) ?_
                refine zk_icmp_ne (tgt := 107) hx hb (by omega) (by omega) dX5_fill_97 (by decide) (fun c_6 => ?_) (fun c_6 => ?_)
                · skip
                  refine lv_iload hx hb dX5_fill_107 (lv_at hl 0 rfl) ?_
                  refine lv_bipush (v := (nI 8)) hx hb dX5_fill_109 (by decide +kernel) ?_
                  refine zk_rem (v := (zr_hi (zr_nx xx)) % 8) hx hb (by omega) (by omega) (by omega) rfl dX5_fill_111 ?_
                  refine zk_if_eq (tgt := 142) hx hb (by omega) dX5_fill_112 (by decide) (fun c_7 => ?_) (fun c_7 => ?_)
                  · skip
                    refine lv_iload hx hb dX5_fill_142 (lv_at hl 0 rfl) ?_
                    refine lv_iconst (v := (nI 4)) hx hb dX5_fill_144 (by decide +kernel) ?_
                    refine zk_rem (v := (zr_hi (zr_nx xx)) % 4) hx hb (by omega) (by omega) (by omega) rfl dX5_fill_145 ?_
                    have hfb : zr_fb (zr_hi (zr_nx xx)) oo bk (zr_v B1 ah) ah (sz + i) = (zr_hi (zr_nx xx)) % 4 := by rw [zr_fb, if_neg (by omega), if_neg (by omega), if_pos (by omega)]
                    have hfl : (zr_hi (zr_nx xx)) % 4 < 256 := by rw [← hfb]; exact zr_fb_lt (fun j => g57_2 _)
                    refine zk_wrV (As := [.int (nI ((zr_hi (zr_nx xx)) % 4))]) (rest := []) ⟨hx, hb, hml, hown, hts⟩ hN (c_lay l D cI cZ cR m_ 0 sp dp mb (sz + i) ah mi mp m1 m2 m3 mc ml bl bd rp B1 ((zr_hi (zr_nx xx)) % 4) (by omega)) (cwV 1 hts gX5_fill_X5_lay rfl rfl rfl (by decide +kernel) ⟨Nat.le_of_ble_eq_true rfl, Nat.le_of_ble_eq_true rfl⟩) hK hP (zk_D hD rfl) hS hA [0, 1] rfl (by decide) (fun _ => rfl) rfl rfl rfl rfl hl.1 rfl (Nat.le_of_ble_eq_true rfl) dX5_fill_146 ⟨Nat.zero_le _, Nat.zero_le _⟩ (fun u H locs hu1 hP hS => ?_)
                    have hP : va_P D vwCl [(m_, .inr (5, [.int (nI 0), .int (nI sp), .int (nI dp), .ref mb, .int (nI ((sz + i) + 1)), .int (nI ah), .ref mi, .ref mp, .ref m1, .ref m2, .ref m3, .ref mc, .ref ml, .int (nI bl), .int (nI bd), .int (nI rp)])), (mb, zk_a cI 360 (zk_up B1 (60 + (sz + i)) ((zr_hi (zr_nx xx)) % 4))), (mi, zk_a cZ 4 im)] H := hP
                    refine lv_iinc (v := (nI (i + 1))) (lv' := [(6, .int (nI (i + 1))), (7, .int (nI (zr_hi (zr_nx xx)))), (4, .int (zr_nx xx)), (0, .ref m_), (1, .int (nI nn)), (2, .int s_), (3, .int (nI oo)), (5, .int (nI bk))]) hx hb dX5_fill_149 hl (k := 7) rfl (by rw [show Int32.ofInt 1 = (1 : Int32) from rfl, nI_1]) (by decide) rfl (fun ls hl => ?_)
                    refine lv_goto (tgt := 57) hx hb dX5_fill_152 (by decide) ?_
                    have hP : va_P D vwCl [(m_, .inr (5, [.int (nI 0), .int (nI sp), .int (nI dp), .ref mb, .int (nI (sz + (i + 1))), .int (nI ah), .ref mi, .ref mp, .ref m1, .ref m2, .ref m3, .ref mc, .ref ml, .int (nI bl), .int (nI bd), .int (nI rp)])), (mb, zk_a cI 360 (zk_up B1 (60 + (sz + i)) ((zr_hi (zr_nx xx)) % 4))), (mi, zk_a cZ 4 im)] H := hP
                    exact ih57 (i + 1) (zr_nx xx) (zk_up B1 (60 + (sz + i)) ((zr_hi (zr_nx xx)) % 4)) ls _ _ (by omega) (by rw [← g57_1, zr_fl_s (n := nn - i) (m := nn - (i + 1)) (by omega), ← hfb, zr_v_up h0]; rfl) (zk_up_lt g57_2 hfl) (by omega) hP hS (lv_sub hl [3, 4, 5, 6, 2, 7, 0] rfl)
                  · skip
                    refine lv_aload_n hx hb dX5_fill_115 rfl (lv_at hl 2 rfl) ?_
                    refine va_get (D := D) (ci := 5) (v := .int (nI (sz + i))) (C := RX5) (T := TX5) (N := 16) hx hb hts ziX5_fill_5 hown hK hP 0 rfl rfl 4 (by decide) f45 (fun _ h9 => h9) rfl dX5_fill_116 ?_
                    refine lv_iload hx hb dX5_fill_119 (lv_at hl 6 rfl) ?_
                    refine zk_icmp_lt (tgt := 142) hx hb (by omega) (by omega) dX5_fill_121 (by decide) (fun c_8 => ?_) (fun c_8 => ?_)
                    · skip
                      refine lv_iload hx hb dX5_fill_142 (lv_at hl 0 rfl) ?_
                      refine lv_iconst (v := (nI 4)) hx hb dX5_fill_144 (by decide +kernel) ?_
                      refine zk_rem (v := (zr_hi (zr_nx xx)) % 4) hx hb (by omega) (by omega) (by omega) rfl dX5_fill_145 ?_
                      have hfb : zr_fb (zr_hi (zr_nx xx)) oo bk (zr_v B1 ah) ah (sz + i) = (zr_hi (zr_nx xx)) % 4 := by rw [zr_fb, if_neg (by omega), if_neg (by omega), if_neg (by omega), if_neg (by omega)]
                      have hfl : (zr_hi (zr_nx xx)) % 4 < 256 := by rw [← hfb]; exact zr_fb_lt (fun j => g57_2 _)
                      refine zk_wrV (As := [.int (nI ((zr_hi (zr_nx xx)) % 4))]) (rest := []) ⟨hx, hb, hml, hown, hts⟩ hN (c_lay l D cI cZ cR m_ 0 sp dp mb (sz + i) ah mi mp m1 m2 m3 mc ml bl bd rp B1 ((zr_hi (zr_nx xx)) % 4) (by omega)) (cwV 1 hts gX5_fill_X5_lay rfl rfl rfl (by decide +kernel) ⟨Nat.le_of_ble_eq_true rfl, Nat.le_of_ble_eq_true rfl⟩) hK hP (zk_D hD rfl) hS hA [0, 1] rfl (by decide) (fun _ => rfl) rfl rfl rfl rfl hl.1 rfl (Nat.le_of_ble_eq_true rfl) dX5_fill_146 ⟨Nat.zero_le _, Nat.zero_le _⟩ (fun u H locs hu1 hP hS => ?_)
                      have hP : va_P D vwCl [(m_, .inr (5, [.int (nI 0), .int (nI sp), .int (nI dp), .ref mb, .int (nI ((sz + i) + 1)), .int (nI ah), .ref mi, .ref mp, .ref m1, .ref m2, .ref m3, .ref mc, .ref ml, .int (nI bl), .int (nI bd), .int (nI rp)])), (mb, zk_a cI 360 (zk_up B1 (60 + (sz + i)) ((zr_hi (zr_nx xx)) % 4))), (mi, zk_a cZ 4 im)] H := hP
                      refine lv_iinc (v := (nI (i + 1))) (lv' := [(6, .int (nI (i + 1))), (7, .int (nI (zr_hi (zr_nx xx)))), (4, .int (zr_nx xx)), (0, .ref m_), (1, .int (nI nn)), (2, .int s_), (3, .int (nI oo)), (5, .int (nI bk))]) hx hb dX5_fill_149 hl (k := 7) rfl (by rw [show Int32.ofInt 1 = (1 : Int32) from rfl, nI_1]) (by decide) rfl (fun ls hl => ?_)
                      refine lv_goto (tgt := 57) hx hb dX5_fill_152 (by decide) ?_
                      have hP : va_P D vwCl [(m_, .inr (5, [.int (nI 0), .int (nI sp), .int (nI dp), .ref mb, .int (nI (sz + (i + 1))), .int (nI ah), .ref mi, .ref mp, .ref m1, .ref m2, .ref m3, .ref mc, .ref ml, .int (nI bl), .int (nI bd), .int (nI rp)])), (mb, zk_a cI 360 (zk_up B1 (60 + (sz + i)) ((zr_hi (zr_nx xx)) % 4))), (mi, zk_a cZ 4 im)] H := hP
                      exact ih57 (i + 1) (zr_nx xx) (zk_up B1 (60 + (sz + i)) ((zr_hi (zr_nx xx)) % 4)) ls _ _ (by omega) (by rw [← g57_1, zr_fl_s (n := nn - i) (m := nn - (i + 1)) (by omega), ← hfb, zr_v_up h0]; rfl) (zk_up_lt g57_2 hfl) (by omega) hP hS (lv_sub hl [3, 4, 5, 6, 2, 7, 0] rfl)
                    · skip
                      refine lv_aload_n hx hb dX5_fill_124 rfl (lv_at hl 2 rfl) ?_
                      refine va_get (D := D) (ci := 5) (v := .ref mb) (C := RX5) (T := TX5) (N := 16) hx hb hts ziX5_fill_5 hown hK hP 0 rfl rfl 3 (by decide) f7 (fun _ h9 => h9) rfl dX5_fill_125 ?_
                      refine lv_bipush (v := (nI 60)) hx hb dX5_fill_128 (by decide +kernel) ?_
                      refine lv_aload_n hx hb dX5_fill_130 rfl (lv_at hl 2 rfl) ?_
                      refine va_get (D := D) (ci := 5) (v := .int (nI (sz + i))) (C := RX5) (T := TX5) (N := 16) hx hb hts ziX5_fill_5 hown hK hP 0 rfl rfl 4 (by decide) f45 (fun _ h9 => h9) rfl dX5_fill_131 ?_
                      refine zk_add (v := 60 + (sz + i)) hx hb (rfl) dX5_fill_134 ?_
                      refine lv_iload hx hb dX5_fill_135 (lv_at hl 6 rfl) ?_
                      refine zk_sub (v := (60 + (sz + i)) - bk) hx hb (by omega) dX5_fill_137 ?_
                      refine zk_ild (v := B1 ((60 + (sz + i)) - bk)) hx hb hK hP 1 0 (i := (60 + (sz + i)) - bk) (g := B1) rfl rfl (by omega) (by decide) rfl dX5_fill_138 ?_
                      refine lv_goto (tgt := 146) hx hb dX5_fill_139 (by decide) ?_
                      have hfb : zr_fb (zr_hi (zr_nx xx)) oo bk (zr_v B1 ah) ah (sz + i) = B1 ((60 + (sz + i)) - bk) := by rw [zr_fb, if_neg (by omega), if_neg (by omega), if_neg (by omega), if_pos (by omega)]; exact zr_vB (by omega)
                      have hfl : B1 ((60 + (sz + i)) - bk) < 256 := by rw [← hfb]; exact zr_fb_lt (fun j => g57_2 _)
                      refine zk_wrV (As := [.int (nI (B1 ((60 + (sz + i)) - bk)))]) (rest := []) ⟨hx, hb, hml, hown, hts⟩ hN (c_lay l D cI cZ cR m_ 0 sp dp mb (sz + i) ah mi mp m1 m2 m3 mc ml bl bd rp B1 (B1 ((60 + (sz + i)) - bk)) (by omega)) (cwV 1 hts gX5_fill_X5_lay rfl rfl rfl (by decide +kernel) ⟨Nat.le_of_ble_eq_true rfl, Nat.le_of_ble_eq_true rfl⟩) hK hP (zk_D hD rfl) hS hA [0, 1] rfl (by decide) (fun _ => rfl) rfl rfl rfl rfl hl.1 rfl (Nat.le_of_ble_eq_true rfl) dX5_fill_146 ⟨Nat.zero_le _, Nat.zero_le _⟩ (fun u H locs hu1 hP hS => ?_)
                      have hP : va_P D vwCl [(m_, .inr (5, [.int (nI 0), .int (nI sp), .int (nI dp), .ref mb, .int (nI ((sz + i) + 1)), .int (nI ah), .ref mi, .ref mp, .ref m1, .ref m2, .ref m3, .ref mc, .ref ml, .int (nI bl), .int (nI bd), .int (nI rp)])), (mb, zk_a cI 360 (zk_up B1 (60 + (sz + i)) (B1 ((60 + (sz + i)) - bk)))), (mi, zk_a cZ 4 im)] H := hP
                      refine lv_iinc (v := (nI (i + 1))) (lv' := [(6, .int (nI (i + 1))), (7, .int (nI (zr_hi (zr_nx xx)))), (4, .int (zr_nx xx)), (0, .ref m_), (1, .int (nI nn)), (2, .int s_), (3, .int (nI oo)), (5, .int (nI bk))]) hx hb dX5_fill_149 hl (k := 7) rfl (by rw [show Int32.ofInt 1 = (1 : Int32) from rfl, nI_1]) (by decide) rfl (fun ls hl => ?_)
                      refine lv_goto (tgt := 57) hx hb dX5_fill_152 (by decide) ?_
                      have hP : va_P D vwCl [(m_, .inr (5, [.int (nI 0), .int (nI sp), .int (nI dp), .ref mb, .int (nI (sz + (i + 1))), .int (nI ah), .ref mi, .ref mp, .ref m1, .ref m2, .ref m3, .ref mc, .ref ml, .int (nI bl), .int (nI bd), .int (nI rp)])), (mb, zk_a cI 360 (zk_up B1 (60 + (sz + i)) (B1 ((60 + (sz + i)) - bk)))), (mi, zk_a cZ 4 im)] H := hP
                      exact ih57 (i + 1) (zr_nx xx) (zk_up B1 (60 + (sz + i)) (B1 ((60 + (sz + i)) - bk))) ls _ _ (by omega) (by rw [← g57_1, zr_fl_s (n := nn - i) (m := nn - (i + 1)) (by omega), ← hfb, zr_v_up h0]; rfl) (zk_up_lt g57_2 hfl) (by omega) hP hS (lv_sub hl [3, 4, 5, 6, 2, 7, 0] rfl)
                · skip
                  refine lv_iload hx hb dX5_fill_100 (lv_at hl 0 rfl) ?_
                  refine lv_iconst (v := (nI 3)) hx hb dX5_fill_102 (by decide +kernel) ?_
                  refine zk_rem (v := (zr_hi (zr_nx xx)) % 3) hx hb (by omega) (by omega) (by omega) rfl dX5_fill_103 ?_
                  refine lv_goto (tgt := 146) hx hb dX5_fill_104 (by decide) ?_
                  have hfb : zr_fb (zr_hi (zr_nx xx)) oo bk (zr_v B1 ah) ah (sz + i) = (zr_hi (zr_nx xx)) % 3 := by rw [zr_fb, if_neg (by omega), if_pos (by omega)]
                  have hfl : (zr_hi (zr_nx xx)) % 3 < 256 := by rw [← hfb]; exact zr_fb_lt (fun j => g57_2 _)
                  refine zk_wrV (As := [.int (nI ((zr_hi (zr_nx xx)) % 3))]) (rest := []) ⟨hx, hb, hml, hown, hts⟩ hN (c_lay l D cI cZ cR m_ 0 sp dp mb (sz + i) ah mi mp m1 m2 m3 mc ml bl bd rp B1 ((zr_hi (zr_nx xx)) % 3) (by omega)) (cwV 1 hts gX5_fill_X5_lay rfl rfl rfl (by decide +kernel) ⟨Nat.le_of_ble_eq_true rfl, Nat.le_of_ble_eq_true rfl⟩) hK hP (zk_D hD rfl) hS hA [0, 1] rfl (by decide) (fun _ => rfl) rfl rfl rfl rfl hl.1 rfl (Nat.le_of_ble_eq_true rfl) dX5_fill_146 ⟨Nat.zero_le _, Nat.zero_le _⟩ (fun u H locs hu1 hP hS => ?_)
                  have hP : va_P D vwCl [(m_, .inr (5, [.int (nI 0), .int (nI sp), .int (nI dp), .ref mb, .int (nI ((sz + i) + 1)), .int (nI ah), .ref mi, .ref mp, .ref m1, .ref m2, .ref m3, .ref mc, .ref ml, .int (nI bl), .int (nI bd), .int (nI rp)])), (mb, zk_a cI 360 (zk_up B1 (60 + (sz + i)) ((zr_hi (zr_nx xx)) % 3))), (mi, zk_a cZ 4 im)] H := hP
                  refine lv_iinc (v := (nI (i + 1))) (lv' := [(6, .int (nI (i + 1))), (7, .int (nI (zr_hi (zr_nx xx)))), (4, .int (zr_nx xx)), (0, .ref m_), (1, .int (nI nn)), (2, .int s_), (3, .int (nI oo)), (5, .int (nI bk))]) hx hb dX5_fill_149 hl (k := 7) rfl (by rw [show Int32.ofInt 1 = (1 : Int32) from rfl, nI_1]) (by decide) rfl (fun ls hl => ?_)
                  refine lv_goto (tgt := 57) hx hb dX5_fill_152 (by decide) ?_
                  have hP : va_P D vwCl [(m_, .inr (5, [.int (nI 0), .int (nI sp), .int (nI dp), .ref mb, .int (nI (sz + (i + 1))), .int (nI ah), .ref mi, .ref mp, .ref m1, .ref m2, .ref m3, .ref mc, .ref ml, .int (nI bl), .int (nI bd), .int (nI rp)])), (mb, zk_a cI 360 (zk_up B1 (60 + (sz + i)) ((zr_hi (zr_nx xx)) % 3))), (mi, zk_a cZ 4 im)] H := hP
                  exact ih57 (i + 1) (zr_nx xx) (zk_up B1 (60 + (sz + i)) ((zr_hi (zr_nx xx)) % 3)) ls _ _ (by omega) (by rw [← g57_1, zr_fl_s (n := nn - i) (m := nn - (i + 1)) (by omega), ← hfb, zr_v_up h0]; rfl) (zk_up_lt g57_2 hfl) (by omega) hP hS (lv_sub hl [3, 4, 5, 6, 2, 7, 0] rfl)
              · skip
                refine lv_iload hx hb dX5_fill_86 (lv_at hl 0 rfl) ?_
                refine lv_sipush (v := (nI 256)) hx hb dX5_fill_88 (by decide +kernel) ?_
                refine zk_rem (v := (zr_hi (zr_nx xx)) % 256) hx hb (by omega) (by omega) (by omega) rfl dX5_fill_91 ?_
                refine lv_goto (tgt := 146) hx hb dX5_fill_92 (by decide) ?_
                have hfb : zr_fb (zr_hi (zr_nx xx)) oo bk (zr_v B1 ah) ah (sz + i) = (zr_hi (zr_nx xx)) % 256 := by rw [zr_fb, if_pos (by omega)]
                have hfl : (zr_hi (zr_nx xx)) % 256 < 256 := by rw [← hfb]; exact zr_fb_lt (fun j => g57_2 _)
                refine zk_wrV (As := [.int (nI ((zr_hi (zr_nx xx)) % 256))]) (rest := []) ⟨hx, hb, hml, hown, hts⟩ hN (c_lay l D cI cZ cR m_ 0 sp dp mb (sz + i) ah mi mp m1 m2 m3 mc ml bl bd rp B1 ((zr_hi (zr_nx xx)) % 256) (by omega)) (cwV 1 hts gX5_fill_X5_lay rfl rfl rfl (by decide +kernel) ⟨Nat.le_of_ble_eq_true rfl, Nat.le_of_ble_eq_true rfl⟩) hK hP (zk_D hD rfl) hS hA [0, 1] rfl (by decide) (fun _ => rfl) rfl rfl rfl rfl hl.1 rfl (Nat.le_of_ble_eq_true rfl) dX5_fill_146 ⟨Nat.zero_le _, Nat.zero_le _⟩ (fun u H locs hu1 hP hS => ?_)
                have hP : va_P D vwCl [(m_, .inr (5, [.int (nI 0), .int (nI sp), .int (nI dp), .ref mb, .int (nI ((sz + i) + 1)), .int (nI ah), .ref mi, .ref mp, .ref m1, .ref m2, .ref m3, .ref mc, .ref ml, .int (nI bl), .int (nI bd), .int (nI rp)])), (mb, zk_a cI 360 (zk_up B1 (60 + (sz + i)) ((zr_hi (zr_nx xx)) % 256))), (mi, zk_a cZ 4 im)] H := hP
                refine lv_iinc (v := (nI (i + 1))) (lv' := [(6, .int (nI (i + 1))), (7, .int (nI (zr_hi (zr_nx xx)))), (4, .int (zr_nx xx)), (0, .ref m_), (1, .int (nI nn)), (2, .int s_), (3, .int (nI oo)), (5, .int (nI bk))]) hx hb dX5_fill_149 hl (k := 7) rfl (by rw [show Int32.ofInt 1 = (1 : Int32) from rfl, nI_1]) (by decide) rfl (fun ls hl => ?_)
                refine lv_goto (tgt := 57) hx hb dX5_fill_152 (by decide) ?_
                have hP : va_P D vwCl [(m_, .inr (5, [.int (nI 0), .int (nI sp), .int (nI dp), .ref mb, .int (nI (sz + (i + 1))), .int (nI ah), .ref mi, .ref mp, .ref m1, .ref m2, .ref m3, .ref mc, .ref ml, .int (nI bl), .int (nI bd), .int (nI rp)])), (mb, zk_a cI 360 (zk_up B1 (60 + (sz + i)) ((zr_hi (zr_nx xx)) % 256))), (mi, zk_a cZ 4 im)] H := hP
                exact ih57 (i + 1) (zr_nx xx) (zk_up B1 (60 + (sz + i)) ((zr_hi (zr_nx xx)) % 256)) ls _ _ (by omega) (by rw [← g57_1, zr_fl_s (n := nn - i) (m := nn - (i + 1)) (by omega), ← hfb, zr_v_up h0]; rfl) (zk_up_lt g57_2 hfl) (by omega) hP hS (lv_sub hl [3, 4, 5, 6, 2, 7, 0] rfl)
        exact L57 (nn - 0 + 1) 0 s_ B ls _ _ (by omega) rfl h2 (by omega) hP hS (lv_sub hl [3, 4, 5, 6, 2, 1, 0] rfl)
      · skip
        refine lv_bipush (v := (-4)) hx hb dX5_fill_40 (by decide +kernel) ?_
        exact hret _ ls _ _ _ (B, ah, sz, im) dX5_fill_42 ⟨by rw [zT_fill, if_neg (zk_nlt1 hn1 hn2), if_neg (nI_nlt hn2 (by decide)), zk_win ho (by decide), nI_clamp (show nn < 2 ^ 31 by omega), if_neg (by omega)], h2, h3⟩ hP hS
    · skip
      have ho0 := zk_in0 (lo := 0) (hi := 2) c_2
      refine lv_bipush (v := (-2)) hx hb dX5_fill_25 (by decide +kernel) ?_
      exact hret _ ls _ _ _ (B, ah, sz, im) dX5_fill_27 ⟨by rw [zT_fill, if_neg (zk_nlt1 hn1 hn2), if_neg (nI_nlt hn2 (by decide)), zk_wout2 ho0], h2, h3⟩ hP hS
