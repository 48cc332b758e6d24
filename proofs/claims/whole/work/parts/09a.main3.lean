theorem zk_nl {k : Int32} {n : Nat} (h : ¬ k < nI n) : nI n ≤ k := by
  rw [Int32.lt_iff_toInt_lt] at h
  rw [Int32.le_iff_toInt_le]
  omega
theorem zk_ln {k : Int32} {n : Nat} (h : k < nI n) : ¬ nI n ≤ k := by
  rw [Int32.lt_iff_toInt_lt] at h
  rw [Int32.le_iff_toInt_le]
  omega
theorem zk_ii {k : Int32} {n : Nat} (h0 : ¬ k < 0) (h : k < nI n) (hn : n ≤ 300) : ∃ j : Nat, j < n ∧ k = nI j := by
  rcases pk_ix k (show n < 2 ^ 31 by omega) with h3 | h3 | h3
  · exact absurd h3 h0
  · exact absurd h3 (zk_ln h)
  · exact h3
theorem zk_kn {k : Int32} {n : Nat} (h1 : ¬ k < -1) (h2 : ¬ k = -1) (h3 : k < nI n) (hn : n < 2 ^ 31) : ∃ j : Nat, j < n ∧ k = nI j := by
  have h0 : ¬ k < 0 := fun h => by
    rw [Int32.lt_iff_toInt_lt] at h h1
    have e1 : (-1 : Int32).toInt = -1 := by decide +kernel
    rw [e1] at h1
    rw [Int32.toInt_zero] at h
    exact h2 (Int32.toInt_inj.mp (by rw [e1]; omega))
  rcases pk_ix k hn with h4 | h4 | h4
  · exact absurd h4 h0
  · exact absurd h4 (zk_ln h3)
  · exact h4
theorem zr_is_getD {F : List (Nat × Nat)} {fl fd : Nat → Nat} {n k : Nat} (h : zr_is F fl fd n) (hk : k < n) : F.getD k (0, 0) = (fl k, fd k) := by
  rw [List.getD_eq_getElem?_getD, h.2 k hk]
  rfl
theorem zk_wno {w : Int32} {j : Nat} (hj : j < 4) (he : w = nI j) : ¬ (w < 0 ∨ nI 4 ≤ w) := fun h => by
  subst he
  rcases h with h | h
  · exact nI_pos (by omega) h
  · exact nI_ge hj (by decide) h
theorem zk_upE (f : Nat → Nat) (w x : Nat) : (fun j => nI (zk_up f w x j)) w = nI x := by show nI (zk_up f w x w) = nI x; rw [zk_up_eq]
theorem zr_pcs_len {sel : Nat → Nat × Nat} {sz : Nat} : ∀ (n q : Nat), (zr_pcs sel sz n q).length ≤ n
  | 0, _ => Nat.le_refl _
  | n + 1, q => by
    unfold zr_pcs
    split
    · split
      · rw [List.length_cons]; have h := zr_pcs_len (sel := sel) (sz := sz) n (q + (sel q).1); omega
      · rw [List.length_cons]; have h := zr_pcs_len (sel := sel) (sz := sz) n (q + 1); omega
    · simp
theorem zr_row_ct {w : Nat} {g : Nat → Nat} {ah sz sp dp ct pb bw rc : Nat} {pl ln ds : Nat → Nat} (h : zr_row w g ah sz sp dp ct pb bw rc pl ln ds) (hs : sz ≤ 300) : ct ≤ 300 := by
  obtain ⟨sel, la, se, th, h1, h2, h3⟩ := h
  have h4 := zr_pcs_len (sel := sel) (sz := sz) sz 0
  rw [h2.1] at h4
  omega
theorem zk_out3 {v : Int32} (h0 : ¬ v = nI 0) (h1 : ¬ v = nI 1) (h2 : ¬ v = nI 2) : v.toInt < 0 ∨ 2 < v.toInt := by
  have e : ∀ n : Nat, n < 2 ^ 31 → ¬ v = nI n → ¬ v.toInt = (n : Int) := fun n hn h q => h (Int32.toInt_inj.mp (by rw [q, nI_toInt hn]))
  have a0 := e 0 (by decide) h0
  have a1 := e 1 (by decide) h1
  have a2 := e 2 (by decide) h2
  omega
section ZKP
variable {i v ct ct0 : Nat} {w : Nat} {cts : Nat → Nat} {pls lns dss : Nat → Nat → Nat} {pl ln ds : Nat → Nat}
theorem zk_pc0 (hi : i < ct) (hc : ct < 2 ^ 31) : (fun j => zA_piece (nI i) (nI 0) (zk_up cts w ct j) (zk_upF pls w pl j) (zk_upF lns w ln j) (zk_upF dss w ds j)) w = nI (pl i) := by
  show zA_piece (nI i) (nI 0) (zk_up cts w ct w) (zk_upF pls w pl w) (zk_upF lns w ln w) (zk_upF dss w ds w) = _
  rw [zk_up_eq, zA_piece, zk_val hi hc, if_pos rfl, nI_clamp (by omega), zk_upF, if_pos rfl]
theorem zk_pc1 (hi : i < ct) (hc : ct < 2 ^ 31) : (fun j => zA_piece (nI i) (nI 1) (zk_up cts w ct j) (zk_upF pls w pl j) (zk_upF lns w ln j) (zk_upF dss w ds j)) w = nI (ln i) := by
  show zA_piece (nI i) (nI 1) (zk_up cts w ct w) (zk_upF pls w pl w) (zk_upF lns w ln w) (zk_upF dss w ds w) = _
  rw [zk_up_eq, zA_piece, zk_val hi hc, if_neg (by decide +kernel), if_pos rfl, nI_clamp (by omega), show zk_upF lns w ln w = ln from if_pos rfl]
theorem zk_pc2 (hi : i < ct) (hc : ct < 2 ^ 31) : (fun j => zA_piece (nI i) (nI 2) (zk_up cts w ct j) (zk_upF pls w pl j) (zk_upF lns w ln j) (zk_upF dss w ds j)) w = nI (ds i) := by
  show zA_piece (nI i) (nI 2) (zk_up cts w ct w) (zk_upF pls w pl w) (zk_upF lns w ln w) (zk_upF dss w ds w) = _
  rw [zk_up_eq, zA_piece, zk_val hi hc, if_neg (by decide +kernel), if_neg (by decide +kernel), if_pos rfl, nI_clamp (by omega), show zk_upF dss w ds w = ds from if_pos rfl]
theorem zk_pc3 {x : Int32} (hi : i < ct) (hc : ct < 2 ^ 31) (h0 : ¬ x = nI 0) (h1 : ¬ x = nI 1) (h2 : ¬ x = nI 2) : (fun j => zA_piece (nI i) x (zk_up cts w ct j) (zk_upF pls w pl j) (zk_upF lns w ln j) (zk_upF dss w ds j)) w = -2 := by
  show zA_piece (nI i) x (zk_up cts w ct w) (zk_upF pls w pl w) (zk_upF lns w ln w) (zk_upF dss w ds w) = _
  rw [zk_up_eq, zA_piece, zk_val hi hc, if_neg h0, if_neg h1, if_neg h2]
theorem zk_pcn {k x : Int32} (h : k < 0 ∨ nI ct ≤ k) : (fun j => zA_piece k x (zk_up cts w ct j) (zk_upF pls w pl j) (zk_upF lns w ln j) (zk_upF dss w ds j)) w = -1 := by
  show zA_piece k x (zk_up cts w ct w) (zk_upF pls w pl w) (zk_upF lns w ln w) (zk_upF dss w ds w) = _
  rw [zk_up_eq, zA_piece, zk_inv h]
end ZKP
def rmX4_longest : Room := { frames := 4, cells := 0, slots := 0, locals := 89 }
set_option maxRecDepth 20000 in
theorem ziX4_longest_0 : ∀ w ∈ wsX00, w ∈ wsX4_longest := by decide +kernel
set_option maxRecDepth 20000 in
theorem ziX4_longest_4 : ∀ w ∈ wsX40, w ∈ wsX4_longest := by decide +kernel
set_option maxHeartbeats 4000000 in
set_option maxRecDepth 100000 in
/-- longest -/
theorem c_longest (l : Launch) (D : va_G) (cI cZ cR : ClassId) (x_ : Nat) (q_ : Nat) (t : Nat) (f : Nat) (k_ : Nat) (rf : Nat → Option Nat) (sp : Nat) (dp : Nat) (fa : Nat) (fb : Nat) (b : Nat) (ka : Nat) (kb : Nat) (kd : Nat) (r : Nat → Nat) (ra : Nat → Nat) (rb : Nat → Nat) (rd : Nat → Nat) (fl : Nat → Nat) (fd : Nat → Nat) (fc : Nat) (le : Nat) (di : Nat) (g : Nat → Nat) (ah : Nat) (sz : Nat) (co : Nat → Nat) (pn : Nat → Nat) (pd : Nat → Nat) (ct : Nat → Nat) (pb : Nat → Nat) (bw : Nat → Nat) (rc : Nat → Nat) (to : Nat → Nat) (la : Nat → Nat) (se : Nat → Nat) (th : Nat → Nat) (pl : Nat → Nat → Nat) (ln : Nat → Nat → Nat) (ds : Nat → Nat → Nat) (p_ : Int32) (w_ : Int32) (h0 : ah ≤ 60) (h1 : sz ≤ 300) (h2 : sp ≤ 300) (h3 : dp ≤ 64) (h4 : ∀ j, g j < 256) (h5 : ∀ i, i < 4 → rf i = some (r i)) (h6 : zr_rows g ah sz sp dp to ct pb bw rc pl ln ds) : zk_Wi l yX4_longest wsX4_longest rmX4_longest D (zk_t cI cZ cR) [.ref x_, .int p_, .int w_] [(x_, .inr (4, [.ref t, .ref f, .ref k_, .ref q_])), (f, .inr (0, [.ref t, .int (nI sp), .int (nI dp), .ref fa, .ref fb, .int (nI fc), .int (nI le), .int (nI di)])), (fa, zk_a cI 38 fl), (fb, zk_a cI 38 fd), (t, .inr (3, [.ref b, .int (nI ah), .int (nI sz)])), (b, zk_a cI 360 g), (k_, .inr (1, [.ref ka, .ref kb, .ref kd])), (ka, zk_a cI 301 co), (kb, zk_a cI 300 pn), (kd, zk_a cI 300 pd), (q_, .inl (cR, 4, .inr (.inr (.inr (.inr rf))))), (r 0, .inr (2, [.ref (ra 0), .ref (rb 0), .ref (rd 0), .int (nI (ct 0)), .int (nI (pb 0)), .int (nI (bw 0)), .int (nI (rc 0)), .int (nI (to 0)), .int (nI (la 0)), .int (nI (se 0)), .int (nI (th 0))])), (ra 0, zk_a cI 300 (pl 0)), (rb 0, zk_a cI 300 (ln 0)), (rd 0, zk_a cI 300 (ds 0)), (r 1, .inr (2, [.ref (ra 1), .ref (rb 1), .ref (rd 1), .int (nI (ct 1)), .int (nI (pb 1)), .int (nI (bw 1)), .int (nI (rc 1)), .int (nI (to 1)), .int (nI (la 1)), .int (nI (se 1)), .int (nI (th 1))])), (ra 1, zk_a cI 300 (pl 1)), (rb 1, zk_a cI 300 (ln 1)), (rd 1, zk_a cI 300 (ds 1)), (r 2, .inr (2, [.ref (ra 2), .ref (rb 2), .ref (rd 2), .int (nI (ct 2)), .int (nI (pb 2)), .int (nI (bw 2)), .int (nI (rc 2)), .int (nI (to 2)), .int (nI (la 2)), .int (nI (se 2)), .int (nI (th 2))])), (ra 2, zk_a cI 300 (pl 2)), (rb 2, zk_a cI 300 (ln 2)), (rd 2, zk_a cI 300 (ds 2)), (r 3, .inr (2, [.ref (ra 3), .ref (rb 3), .ref (rd 3), .int (nI (ct 3)), .int (nI (pb 3)), .int (nI (bw 3)), .int (nI (rc 3)), .int (nI (to 3)), .int (nI (la 3)), .int (nI (se 3)), .int (nI (th 3))])), (ra 3, zk_a cI 300 (pl 3)), (rb 3, zk_a cI 300 (ln 3)), (rd 3, zk_a cI 300 (ds 3))] (fun (r : Int32) (u : (Nat → Nat) × (Nat → Nat) × Nat × Nat × Nat) => match u with | (fl2, fd2, fc2, le2, di2) => r = zA_pick p_ w_ sz (zr_s0 g ah sz sp)) (fun u => match u with | (fl2, fd2, fc2, le2, di2) => [(x_, .inr (4, [.ref t, .ref f, .ref k_, .ref q_])), (f, .inr (0, [.ref t, .int (nI sp), .int (nI dp), .ref fa, .ref fb, .int (nI fc2), .int (nI le2), .int (nI di2)])), (fa, zk_a cI 38 fl2), (fb, zk_a cI 38 fd2), (t, .inr (3, [.ref b, .int (nI ah), .int (nI sz)])), (b, zk_a cI 360 g), (k_, .inr (1, [.ref ka, .ref kb, .ref kd])), (ka, zk_a cI 301 co), (kb, zk_a cI 300 pn), (kd, zk_a cI 300 pd), (q_, .inl (cR, 4, .inr (.inr (.inr (.inr rf))))), (r 0, .inr (2, [.ref (ra 0), .ref (rb 0), .ref (rd 0), .int (nI (ct 0)), .int (nI (pb 0)), .int (nI (bw 0)), .int (nI (rc 0)), .int (nI (to 0)), .int (nI (la 0)), .int (nI (se 0)), .int (nI (th 0))])), (ra 0, zk_a cI 300 (pl 0)), (rb 0, zk_a cI 300 (ln 0)), (rd 0, zk_a cI 300 (ds 0)), (r 1, .inr (2, [.ref (ra 1), .ref (rb 1), .ref (rd 1), .int (nI (ct 1)), .int (nI (pb 1)), .int (nI (bw 1)), .int (nI (rc 1)), .int (nI (to 1)), .int (nI (la 1)), .int (nI (se 1)), .int (nI (th 1))])), (ra 1, zk_a cI 300 (pl 1)), (rb 1, zk_a cI 300 (ln 1)), (rd 1, zk_a cI 300 (ds 1)), (r 2, .inr (2, [.ref (ra 2), .ref (rb 2), .ref (rd 2), .int (nI (ct 2)), .int (nI (pb 2)), .int (nI (bw 2)), .int (nI (rc 2)), .int (nI (to 2)), .int (nI (la 2)), .int (nI (se 2)), .int (nI (th 2))])), (ra 2, zk_a cI 300 (pl 2)), (rb 2, zk_a cI 300 (ln 2)), (rd 2, zk_a cI 300 (ds 2)), (r 3, .inr (2, [.ref (ra 3), .ref (rb 3), .ref (rd 3), .int (nI (ct 3)), .int (nI (pb 3)), .int (nI (bw 3)), .int (nI (rc 3)), .int (nI (to 3)), .int (nI (la 3)), .int (nI (se 3)), .int (nI (th 3))])), (ra 3, zk_a cI 300 (pl 3)), (rb 3, zk_a cI 300 (ln 3)), (rd 3, zk_a cI 300 (ds 3))]) := by
  refine zk_enterI RX4 cX4_longest 3 (by decide) rfl rfl (Nat.le_of_ble_eq_true rfl) ?_
  intro p e s m args below meth c ls A Q hx hb hml hown hts hP hK hD hN hl hA hS hret
  have hl : lv_has ls 3 [(0, .ref x_), (1, .int p_), (2, .int w_)] := hl
  have f25 := hts (.fieldLink RX4 25 "MatchFinders" "finder" "LMatchFinders$Finder;") (by decide +kernel)
  have f76 := hts (.fieldLink RX4 76 "MatchFinders$Finder" "length" "I") (by decide +kernel)
  have f79 := hts (.fieldLink RX4 79 "MatchFinders$Finder" "distance" "I") (by decide +kernel)
  refine lv_aload_n hx hb dX4_longest_0 rfl (lv_at hl 0 rfl) ?_
  refine lv_iload_n hx hb dX4_longest_1 rfl (lv_at hl 1 rfl) ?_
  refine zk_rdV (As := [.int p_]) (rest := []) ⟨hx, hb, hml, hown, hts⟩ hN (c_isPlace l D cI cZ cR x_ q_ f k_ t b ah sz g p_) (cwV 1 hts gX4_longest_X4_isPlace rfl rfl rfl (by decide +kernel) ⟨Nat.le_of_ble_eq_true rfl, Nat.le_of_ble_eq_true rfl⟩) hK hP (zk_D hD rfl) [0, 4, 5] rfl (by decide) rfl rfl rfl rfl hl.1 rfl (Nat.le_of_ble_eq_true rfl) dX4_longest_2 ⟨Nat.zero_le _, Nat.zero_le _⟩ ?_
  refine lv_if_ne (tgt := 10) hx hb dX4_longest_5 (by decide) (fun c_1 => ?_) (fun c_1 => ?_)
  · skip
    obtain ⟨pp, hpp, hpe⟩ := zk_wz2 (by omega) c_1
    subst hpe
    refine lv_iload_n hx hb dX4_longest_10 rfl (lv_at hl 2 rfl) ?_
    refine lv_if_lt (tgt := 19) hx hb dX4_longest_11 (by decide) (fun c_2 => ?_) (fun c_2 => ?_)
    · skip
      refine lv_bipush (v := (-2)) hx hb dX4_longest_19 (by decide +kernel) ?_
      exact hret _ ls _ _ _ (fl, fd, fc, le, di) dX4_longest_21 (by rw [zA_pick, zk_val hpp (by omega), zk_wout (n := 1) (Or.inl c_2)]) hP hS
    · skip
      refine lv_iload_n hx hb dX4_longest_14 rfl (lv_at hl 2 rfl) ?_
      refine lv_iconst (v := (nI 1)) hx hb dX4_longest_15 (by decide +kernel) ?_
      refine lv_icmp_le (tgt := 22) hx hb dX4_longest_16 (by decide) (fun c_3 => ?_) (fun c_3 => ?_)
      · skip
        obtain ⟨v, hv, hve⟩ := zk_wof (n := 1) (by decide) c_2 c_3
        subst hve
        rcases (show v = 0 ∨ v = 1 by omega) with hv0 | hv0
        · subst hv0
          refine lv_aload_n hx hb dX4_longest_22 rfl (lv_at hl 0 rfl) ?_
          refine va_get (D := D) (ci := 4) (v := .ref f) (C := RX4) (T := TX4) (N := 4) hx hb hts ziX4_longest_4 hown hK hP 0 rfl rfl 1 (by decide) f25 (fun _ h9 => h9) rfl dX4_longest_23 ?_
          refine lv_iload_n hx hb dX4_longest_26 rfl (lv_at hl 1 rfl) ?_
          refine zk_wrV (As := [.int (nI pp)]) (rest := []) ⟨hx, hb, hml, hown, hts⟩ hN (c_seekLongest l D cI cZ cR f sp dp fa fb fc le di fl fd t b ah sz g pp (by omega) (by omega) (by omega) (by omega) h4) (cwV 1 hts gX4_longest_X0_seekLongest rfl rfl rfl (by decide +kernel) ⟨Nat.le_of_ble_eq_true rfl, Nat.le_of_ble_eq_true rfl⟩) hK hP (zk_D hD rfl) hS hA [1, 2, 3, 4, 5] rfl (by decide) (fun _ => rfl) rfl rfl rfl rfl hl.1 rfl (Nat.le_of_ble_eq_true rfl) dX4_longest_27 ⟨Nat.zero_le _, Nat.zero_le _⟩ (fun u H locs hu hP hS => ?_)
          obtain ⟨fl9, fd9, fc9, le9, di9⟩ := u
          have hu : zr_last (zr_F g (ah + pp) (min 40 (sz - pp)) (min sp (ah + pp))) = (le9, di9) := hu
          have hP : va_P D vwCl [(x_, .inr (4, [.ref t, .ref f, .ref k_, .ref q_])), (f, .inr (0, [.ref t, .int (nI sp), .int (nI dp), .ref fa, .ref fb, .int (nI fc9), .int (nI le9), .int (nI di9)])), (fa, zk_a cI 38 fl9), (fb, zk_a cI 38 fd9), (t, .inr (3, [.ref b, .int (nI ah), .int (nI sz)])), (b, zk_a cI 360 g), (k_, .inr (1, [.ref ka, .ref kb, .ref kd])), (ka, zk_a cI 301 co), (kb, zk_a cI 300 pn), (kd, zk_a cI 300 pd), (q_, .inl (cR, 4, .inr (.inr (.inr (.inr rf))))), (r 0, .inr (2, [.ref (ra 0), .ref (rb 0), .ref (rd 0), .int (nI (ct 0)), .int (nI (pb 0)), .int (nI (bw 0)), .int (nI (rc 0)), .int (nI (to 0)), .int (nI (la 0)), .int (nI (se 0)), .int (nI (th 0))])), (ra 0, zk_a cI 300 (pl 0)), (rb 0, zk_a cI 300 (ln 0)), (rd 0, zk_a cI 300 (ds 0)), (r 1, .inr (2, [.ref (ra 1), .ref (rb 1), .ref (rd 1), .int (nI (ct 1)), .int (nI (pb 1)), .int (nI (bw 1)), .int (nI (rc 1)), .int (nI (to 1)), .int (nI (la 1)), .int (nI (se 1)), .int (nI (th 1))])), (ra 1, zk_a cI 300 (pl 1)), (rb 1, zk_a cI 300 (ln 1)), (rd 1, zk_a cI 300 (ds 1)), (r 2, .inr (2, [.ref (ra 2), .ref (rb 2), .ref (rd 2), .int (nI (ct 2)), .int (nI (pb 2)), .int (nI (bw 2)), .int (nI (rc 2)), .int (nI (to 2)), .int (nI (la 2)), .int (nI (se 2)), .int (nI (th 2))])), (ra 2, zk_a cI 300 (pl 2)), (rb 2, zk_a cI 300 (ln 2)), (rd 2, zk_a cI 300 (ds 2)), (r 3, .inr (2, [.ref (ra 3), .ref (rb 3), .ref (rd 3), .int (nI (ct 3)), .int (nI (pb 3)), .int (nI (bw 3)), .int (nI (rc 3)), .int (nI (to 3)), .int (nI (la 3)), .int (nI (se 3)), .int (nI (th 3))])), (ra 3, zk_a cI 300 (pl 3)), (rb 3, zk_a cI 300 (ln 3)), (rd 3, zk_a cI 300 (ds 3))] H := hP
          have hS9 : (zr_s0 g ah sz sp) pp = (le9, di9) := hu
          refine lv_iload_n hx hb dX4_longest_30 rfl (lv_at hl 2 rfl) ?_
          refine zk_if_ne (tgt := 44) hx hb (by omega) dX4_longest_31 (by decide) (fun c_4 => absurd c_4 (by omega)) (fun c_4 => ?_)
          refine lv_aload_n hx hb dX4_longest_34 rfl (lv_at hl 0 rfl) ?_
          refine va_get (D := D) (ci := 4) (v := .ref f) (C := RX4) (T := TX4) (N := 4) hx hb hts ziX4_longest_4 hown hK hP 0 rfl rfl 1 (by decide) f25 (fun _ h9 => h9) rfl dX4_longest_35 ?_
          refine va_get (D := D) (ci := 0) (v := .int (nI le9)) (C := RX0) (T := TX0) (N := 8) hx hb hts ziX4_longest_0 hown hK hP 1 rfl rfl 6 (by decide) f76 (fun _ h9 => h9) rfl dX4_longest_38 ?_
          refine lv_goto (tgt := 51) hx hb dX4_longest_41 (by decide) ?_
          exact hret _ ls _ _ _ (fl9, fd9, fc9, le9, di9) dX4_longest_51 (by rw [zA_pick, zk_val hpp (by omega), zk_win (by omega) (by decide), if_pos nI_0, nI_clamp (show pp < 2 ^ 31 by omega), hS9]) hP hS
        · subst hv0
          refine lv_aload_n hx hb dX4_longest_22 rfl (lv_at hl 0 rfl) ?_
          refine va_get (D := D) (ci := 4) (v := .ref f) (C := RX4) (T := TX4) (N := 4) hx hb hts ziX4_longest_4 hown hK hP 0 rfl rfl 1 (by decide) f25 (fun _ h9 => h9) rfl dX4_longest_23 ?_
          refine lv_iload_n hx hb dX4_longest_26 rfl (lv_at hl 1 rfl) ?_
          refine zk_wrV (As := [.int (nI pp)]) (rest := []) ⟨hx, hb, hml, hown, hts⟩ hN (c_seekLongest l D cI cZ cR f sp dp fa fb fc le di fl fd t b ah sz g pp (by omega) (by omega) (by omega) (by omega) h4) (cwV 1 hts gX4_longest_X0_seekLongest rfl rfl rfl (by decide +kernel) ⟨Nat.le_of_ble_eq_true rfl, Nat.le_of_ble_eq_true rfl⟩) hK hP (zk_D hD rfl) hS hA [1, 2, 3, 4, 5] rfl (by decide) (fun _ => rfl) rfl rfl rfl rfl hl.1 rfl (Nat.le_of_ble_eq_true rfl) dX4_longest_27 ⟨Nat.zero_le _, Nat.zero_le _⟩ (fun u H locs hu hP hS => ?_)
          obtain ⟨fl9, fd9, fc9, le9, di9⟩ := u
          have hu : zr_last (zr_F g (ah + pp) (min 40 (sz - pp)) (min sp (ah + pp))) = (le9, di9) := hu
          have hP : va_P D vwCl [(x_, .inr (4, [.ref t, .ref f, .ref k_, .ref q_])), (f, .inr (0, [.ref t, .int (nI sp), .int (nI dp), .ref fa, .ref fb, .int (nI fc9), .int (nI le9), .int (nI di9)])), (fa, zk_a cI 38 fl9), (fb, zk_a cI 38 fd9), (t, .inr (3, [.ref b, .int (nI ah), .int (nI sz)])), (b, zk_a cI 360 g), (k_, .inr (1, [.ref ka, .ref kb, .ref kd])), (ka, zk_a cI 301 co), (kb, zk_a cI 300 pn), (kd, zk_a cI 300 pd), (q_, .inl (cR, 4, .inr (.inr (.inr (.inr rf))))), (r 0, .inr (2, [.ref (ra 0), .ref (rb 0), .ref (rd 0), .int (nI (ct 0)), .int (nI (pb 0)), .int (nI (bw 0)), .int (nI (rc 0)), .int (nI (to 0)), .int (nI (la 0)), .int (nI (se 0)), .int (nI (th 0))])), (ra 0, zk_a cI 300 (pl 0)), (rb 0, zk_a cI 300 (ln 0)), (rd 0, zk_a cI 300 (ds 0)), (r 1, .inr (2, [.ref (ra 1), .ref (rb 1), .ref (rd 1), .int (nI (ct 1)), .int (nI (pb 1)), .int (nI (bw 1)), .int (nI (rc 1)), .int (nI (to 1)), .int (nI (la 1)), .int (nI (se 1)), .int (nI (th 1))])), (ra 1, zk_a cI 300 (pl 1)), (rb 1, zk_a cI 300 (ln 1)), (rd 1, zk_a cI 300 (ds 1)), (r 2, .inr (2, [.ref (ra 2), .ref (rb 2), .ref (rd 2), .int (nI (ct 2)), .int (nI (pb 2)), .int (nI (bw 2)), .int (nI (rc 2)), .int (nI (to 2)), .int (nI (la 2)), .int (nI (se 2)), .int (nI (th 2))])), (ra 2, zk_a cI 300 (pl 2)), (rb 2, zk_a cI 300 (ln 2)), (rd 2, zk_a cI 300 (ds 2)), (r 3, .inr (2, [.ref (ra 3), .ref (rb 3), .ref (rd 3), .int (nI (ct 3)), .int (nI (pb 3)), .int (nI (bw 3)), .int (nI (rc 3)), .int (nI (to 3)), .int (nI (la 3)), .int (nI (se 3)), .int (nI (th 3))])), (ra 3, zk_a cI 300 (pl 3)), (rb 3, zk_a cI 300 (ln 3)), (rd 3, zk_a cI 300 (ds 3))] H := hP
          have hS9 : (zr_s0 g ah sz sp) pp = (le9, di9) := hu
          refine lv_iload_n hx hb dX4_longest_30 rfl (lv_at hl 2 rfl) ?_
          refine zk_if_ne (tgt := 44) hx hb (by omega) dX4_longest_31 (by decide) (fun c_5 => ?_) (fun c_5 => absurd c_5 (by omega))
          refine lv_aload_n hx hb dX4_longest_44 rfl (lv_at hl 0 rfl) ?_
          refine va_get (D := D) (ci := 4) (v := .ref f) (C := RX4) (T := TX4) (N := 4) hx hb hts ziX4_longest_4 hown hK hP 0 rfl rfl 1 (by decide) f25 (fun _ h9 => h9) rfl dX4_longest_45 ?_
          refine va_get (D := D) (ci := 0) (v := .int (nI di9)) (C := RX0) (T := TX0) (N := 8) hx hb hts ziX4_longest_0 hown hK hP 1 rfl rfl 7 (by decide) f79 (fun _ h9 => h9) rfl dX4_longest_48 ?_
          exact hret _ ls _ _ _ (fl9, fd9, fc9, le9, di9) dX4_longest_51 (by rw [zA_pick, zk_val hpp (by omega), zk_win (by omega) (by decide), if_neg (by decide +kernel), nI_clamp (show pp < 2 ^ 31 by omega), hS9]) hP hS
      · skip
        refine lv_bipush (v := (-2)) hx hb dX4_longest_19 (by decide +kernel) ?_
        exact hret _ ls _ _ _ (fl, fd, fc, le, di) dX4_longest_21 (by rw [zA_pick, zk_val hpp (by omega), zk_wout (n := 1) (Or.inr c_3)]) hP hS
  · skip
    have hno := zk_wz0 c_1
    refine lv_iconst (v := (-1)) hx hb dX4_longest_8 (by decide +kernel) ?_
    exact hret _ ls _ _ _ (fl, fd, fc, le, di) dX4_longest_9 (by rw [zA_pick, zk_inv hno]) hP hS
def rmX4_chained : Room := { frames := 3, cells := 0, slots := 0, locals := 68 }
set_option maxRecDepth 20000 in
theorem ziX4_chained_0 : ∀ w ∈ wsX00, w ∈ wsX4_chained := by decide +kernel
set_option maxRecDepth 20000 in
theorem ziX4_chained_4 : ∀ w ∈ wsX40, w ∈ wsX4_chained := by decide +kernel
set_option maxHeartbeats 4000000 in
set_option maxRecDepth 100000 in
/-- chained -/
theorem c_chained (l : Launch) (D : va_G) (cI cZ cR : ClassId) (x_ : Nat) (q_ : Nat) (t : Nat) (f : Nat) (k_ : Nat) (rf : Nat → Option Nat) (sp : Nat) (dp : Nat) (fa : Nat) (fb : Nat) (b : Nat) (ka : Nat) (kb : Nat) (kd : Nat) (r : Nat → Nat) (ra : Nat → Nat) (rb : Nat → Nat) (rd : Nat → Nat) (fl : Nat → Nat) (fd : Nat → Nat) (fc : Nat) (le : Nat) (di : Nat) (g : Nat → Nat) (ah : Nat) (sz : Nat) (co : Nat → Nat) (pn : Nat → Nat) (pd : Nat → Nat) (ct : Nat → Nat) (pb : Nat → Nat) (bw : Nat → Nat) (rc : Nat → Nat) (to : Nat → Nat) (la : Nat → Nat) (se : Nat → Nat) (th : Nat → Nat) (pl : Nat → Nat → Nat) (ln : Nat → Nat → Nat) (ds : Nat → Nat → Nat) (p_ : Int32) (w_ : Int32) (h0 : ah ≤ 60) (h1 : sz ≤ 300) (h2 : sp ≤ 300) (h3 : dp ≤ 64) (h4 : ∀ j, g j < 256) (h5 : ∀ i, i < 4 → rf i = some (r i)) (h6 : zr_rows g ah sz sp dp to ct pb bw rc pl ln ds) : zk_Wi l yX4_chained wsX4_chained rmX4_chained D (zk_t cI cZ cR) [.ref x_, .int p_, .int w_] [(x_, .inr (4, [.ref t, .ref f, .ref k_, .ref q_])), (f, .inr (0, [.ref t, .int (nI sp), .int (nI dp), .ref fa, .ref fb, .int (nI fc), .int (nI le), .int (nI di)])), (fa, zk_a cI 38 fl), (fb, zk_a cI 38 fd), (t, .inr (3, [.ref b, .int (nI ah), .int (nI sz)])), (b, zk_a cI 360 g), (k_, .inr (1, [.ref ka, .ref kb, .ref kd])), (ka, zk_a cI 301 co), (kb, zk_a cI 300 pn), (kd, zk_a cI 300 pd), (q_, .inl (cR, 4, .inr (.inr (.inr (.inr rf))))), (r 0, .inr (2, [.ref (ra 0), .ref (rb 0), .ref (rd 0), .int (nI (ct 0)), .int (nI (pb 0)), .int (nI (bw 0)), .int (nI (rc 0)), .int (nI (to 0)), .int (nI (la 0)), .int (nI (se 0)), .int (nI (th 0))])), (ra 0, zk_a cI 300 (pl 0)), (rb 0, zk_a cI 300 (ln 0)), (rd 0, zk_a cI 300 (ds 0)), (r 1, .inr (2, [.ref (ra 1), .ref (rb 1), .ref (rd 1), .int (nI (ct 1)), .int (nI (pb 1)), .int (nI (bw 1)), .int (nI (rc 1)), .int (nI (to 1)), .int (nI (la 1)), .int (nI (se 1)), .int (nI (th 1))])), (ra 1, zk_a cI 300 (pl 1)), (rb 1, zk_a cI 300 (ln 1)), (rd 1, zk_a cI 300 (ds 1)), (r 2, .inr (2, [.ref (ra 2), .ref (rb 2), .ref (rd 2), .int (nI (ct 2)), .int (nI (pb 2)), .int (nI (bw 2)), .int (nI (rc 2)), .int (nI (to 2)), .int (nI (la 2)), .int (nI (se 2)), .int (nI (th 2))])), (ra 2, zk_a cI 300 (pl 2)), (rb 2, zk_a cI 300 (ln 2)), (rd 2, zk_a cI 300 (ds 2)), (r 3, .inr (2, [.ref (ra 3), .ref (rb 3), .ref (rd 3), .int (nI (ct 3)), .int (nI (pb 3)), .int (nI (bw 3)), .int (nI (rc 3)), .int (nI (to 3)), .int (nI (la 3)), .int (nI (se 3)), .int (nI (th 3))])), (ra 3, zk_a cI 300 (pl 3)), (rb 3, zk_a cI 300 (ln 3)), (rd 3, zk_a cI 300 (ds 3))] (fun (r : Int32) (u : (Nat → Nat) × (Nat → Nat) × Nat × Nat × Nat) => match u with | (fl2, fd2, fc2, le2, di2) => r = zA_pick p_ w_ sz (zr_s1 g ah sz sp dp)) (fun u => match u with | (fl2, fd2, fc2, le2, di2) => [(x_, .inr (4, [.ref t, .ref f, .ref k_, .ref q_])), (f, .inr (0, [.ref t, .int (nI sp), .int (nI dp), .ref fa, .ref fb, .int (nI fc2), .int (nI le2), .int (nI di2)])), (fa, zk_a cI 38 fl2), (fb, zk_a cI 38 fd2), (t, .inr (3, [.ref b, .int (nI ah), .int (nI sz)])), (b, zk_a cI 360 g), (k_, .inr (1, [.ref ka, .ref kb, .ref kd])), (ka, zk_a cI 301 co), (kb, zk_a cI 300 pn), (kd, zk_a cI 300 pd), (q_, .inl (cR, 4, .inr (.inr (.inr (.inr rf))))), (r 0, .inr (2, [.ref (ra 0), .ref (rb 0), .ref (rd 0), .int (nI (ct 0)), .int (nI (pb 0)), .int (nI (bw 0)), .int (nI (rc 0)), .int (nI (to 0)), .int (nI (la 0)), .int (nI (se 0)), .int (nI (th 0))])), (ra 0, zk_a cI 300 (pl 0)), (rb 0, zk_a cI 300 (ln 0)), (rd 0, zk_a cI 300 (ds 0)), (r 1, .inr (2, [.ref (ra 1), .ref (rb 1), .ref (rd 1), .int (nI (ct 1)), .int (nI (pb 1)), .int (nI (bw 1)), .int (nI (rc 1)), .int (nI (to 1)), .int (nI (la 1)), .int (nI (se 1)), .int (nI (th 1))])), (ra 1, zk_a cI 300 (pl 1)), (rb 1, zk_a cI 300 (ln 1)), (rd 1, zk_a cI 300 (ds 1)), (r 2, .inr (2, [.ref (ra 2), .ref (rb 2), .ref (rd 2), .int (nI (ct 2)), .int (nI (pb 2)), .int (nI (bw 2)), .int (nI (rc 2)), .int (nI (to 2)), .int (nI (la 2)), .int (nI (se 2)), .int (nI (th 2))])), (ra 2, zk_a cI 300 (pl 2)), (rb 2, zk_a cI 300 (ln 2)), (rd 2, zk_a cI 300 (ds 2)), (r 3, .inr (2, [.ref (ra 3), .ref (rb 3), .ref (rd 3), .int (nI (ct 3)), .int (nI (pb 3)), .int (nI (bw 3)), .int (nI (rc 3)), .int (nI (to 3)), .int (nI (la 3)), .int (nI (se 3)), .int (nI (th 3))])), (ra 3, zk_a cI 300 (pl 3)), (rb 3, zk_a cI 300 (ln 3)), (rd 3, zk_a cI 300 (ds 3))]) := by
  refine zk_enterI RX4 cX4_chained 3 (by decide) rfl rfl (Nat.le_of_ble_eq_true rfl) ?_
  intro p e s m args below meth c ls A Q hx hb hml hown hts hP hK hD hN hl hA hS hret
  have hl : lv_has ls 3 [(0, .ref x_), (1, .int p_), (2, .int w_)] := hl
  have f25 := hts (.fieldLink RX4 25 "MatchFinders" "finder" "LMatchFinders$Finder;") (by decide +kernel)
  have f76 := hts (.fieldLink RX4 76 "MatchFinders$Finder" "length" "I") (by decide +kernel)
  have f79 := hts (.fieldLink RX4 79 "MatchFinders$Finder" "distance" "I") (by decide +kernel)
  refine lv_aload_n hx hb dX4_chained_0 rfl (lv_at hl 0 rfl) ?_
  refine lv_iload_n hx hb dX4_chained_1 rfl (lv_at hl 1 rfl) ?_
  refine zk_rdV (As := [.int p_]) (rest := []) ⟨hx, hb, hml, hown, hts⟩ hN (c_isPlace l D cI cZ cR x_ q_ f k_ t b ah sz g p_) (cwV 1 hts gX4_chained_X4_isPlace rfl rfl rfl (by decide +kernel) ⟨Nat.le_of_ble_eq_true rfl, Nat.le_of_ble_eq_true rfl⟩) hK hP (zk_D hD rfl) [0, 4, 5] rfl (by decide) rfl rfl rfl rfl hl.1 rfl (Nat.le_of_ble_eq_true rfl) dX4_chained_2 ⟨Nat.zero_le _, Nat.zero_le _⟩ ?_
  refine lv_if_ne (tgt := 10) hx hb dX4_chained_5 (by decide) (fun c_1 => ?_) (fun c_1 => ?_)
  · skip
    obtain ⟨pp, hpp, hpe⟩ := zk_wz2 (by omega) c_1
    subst hpe
    refine lv_iload_n hx hb dX4_chained_10 rfl (lv_at hl 2 rfl) ?_
    refine lv_if_lt (tgt := 19) hx hb dX4_chained_11 (by decide) (fun c_2 => ?_) (fun c_2 => ?_)
    · skip
      refine lv_bipush (v := (-2)) hx hb dX4_chained_19 (by decide +kernel) ?_
      exact hret _ ls _ _ _ (fl, fd, fc, le, di) dX4_chained_21 (by rw [zA_pick, zk_val hpp (by omega), zk_wout (n := 1) (Or.inl c_2)]) hP hS
    · skip
      refine lv_iload_n hx hb dX4_chained_14 rfl (lv_at hl 2 rfl) ?_
      refine lv_iconst (v := (nI 1)) hx hb dX4_chained_15 (by decide +kernel) ?_
      refine lv_icmp_le (tgt := 22) hx hb dX4_chained_16 (by decide) (fun c_3 => ?_) (fun c_3 => ?_)
      · skip
        obtain ⟨v, hv, hve⟩ := zk_wof (n := 1) (by decide) c_2 c_3
        subst hve
        rcases (show v = 0 ∨ v = 1 by omega) with hv0 | hv0
        · subst hv0
          refine lv_aload_n hx hb dX4_chained_22 rfl (lv_at hl 0 rfl) ?_
          refine va_get (D := D) (ci := 4) (v := .ref f) (C := RX4) (T := TX4) (N := 4) hx hb hts ziX4_chained_4 hown hK hP 0 rfl rfl 1 (by decide) f25 (fun _ h9 => h9) rfl dX4_chained_23 ?_
          refine lv_iload_n hx hb dX4_chained_26 rfl (lv_at hl 1 rfl) ?_
          refine zk_wrV (As := [.int (nI pp)]) (rest := []) ⟨hx, hb, hml, hown, hts⟩ hN (c_seekChained l D cI cZ cR f sp dp fa fb fc le di fl fd t b ah sz g pp (by omega) (by omega) (by omega) (by omega) h4 (by omega)) (cwV 1 hts gX4_chained_X0_seekChained rfl rfl rfl (by decide +kernel) ⟨Nat.le_of_ble_eq_true rfl, Nat.le_of_ble_eq_true rfl⟩) hK hP (zk_D hD rfl) hS hA [1, 2, 3, 4, 5] rfl (by decide) (fun _ => rfl) rfl rfl rfl rfl hl.1 rfl (Nat.le_of_ble_eq_true rfl) dX4_chained_27 ⟨Nat.zero_le _, Nat.zero_le _⟩ (fun u H locs hu hP hS => ?_)
          obtain ⟨le9, di9⟩ := u
          have hu : zr_ch (fun d => zr_reach g (ah + pp) (ah + pp - d) (min 40 (sz - pp))) dp (min sp (ah + pp)) 1 0 0 0 = (le9, di9) := hu
          have hP : va_P D vwCl [(x_, .inr (4, [.ref t, .ref f, .ref k_, .ref q_])), (f, .inr (0, [.ref t, .int (nI sp), .int (nI dp), .ref fa, .ref fb, .int (nI fc), .int (nI le9), .int (nI di9)])), (fa, zk_a cI 38 fl), (fb, zk_a cI 38 fd), (t, .inr (3, [.ref b, .int (nI ah), .int (nI sz)])), (b, zk_a cI 360 g), (k_, .inr (1, [.ref ka, .ref kb, .ref kd])), (ka, zk_a cI 301 co), (kb, zk_a cI 300 pn), (kd, zk_a cI 300 pd), (q_, .inl (cR, 4, .inr (.inr (.inr (.inr rf))))), (r 0, .inr (2, [.ref (ra 0), .ref (rb 0), .ref (rd 0), .int (nI (ct 0)), .int (nI (pb 0)), .int (nI (bw 0)), .int (nI (rc 0)), .int (nI (to 0)), .int (nI (la 0)), .int (nI (se 0)), .int (nI (th 0))])), (ra 0, zk_a cI 300 (pl 0)), (rb 0, zk_a cI 300 (ln 0)), (rd 0, zk_a cI 300 (ds 0)), (r 1, .inr (2, [.ref (ra 1), .ref (rb 1), .ref (rd 1), .int (nI (ct 1)), .int (nI (pb 1)), .int (nI (bw 1)), .int (nI (rc 1)), .int (nI (to 1)), .int (nI (la 1)), .int (nI (se 1)), .int (nI (th 1))])), (ra 1, zk_a cI 300 (pl 1)), (rb 1, zk_a cI 300 (ln 1)), (rd 1, zk_a cI 300 (ds 1)), (r 2, .inr (2, [.ref (ra 2), .ref (rb 2), .ref (rd 2), .int (nI (ct 2)), .int (nI (pb 2)), .int (nI (bw 2)), .int (nI (rc 2)), .int (nI (to 2)), .int (nI (la 2)), .int (nI (se 2)), .int (nI (th 2))])), (ra 2, zk_a cI 300 (pl 2)), (rb 2, zk_a cI 300 (ln 2)), (rd 2, zk_a cI 300 (ds 2)), (r 3, .inr (2, [.ref (ra 3), .ref (rb 3), .ref (rd 3), .int (nI (ct 3)), .int (nI (pb 3)), .int (nI (bw 3)), .int (nI (rc 3)), .int (nI (to 3)), .int (nI (la 3)), .int (nI (se 3)), .int (nI (th 3))])), (ra 3, zk_a cI 300 (pl 3)), (rb 3, zk_a cI 300 (ln 3)), (rd 3, zk_a cI 300 (ds 3))] H := hP
          have hS9 : (zr_s1 g ah sz sp dp) pp = (le9, di9) := hu
          refine lv_iload_n hx hb dX4_chained_30 rfl (lv_at hl 2 rfl) ?_
          refine zk_if_ne (tgt := 44) hx hb (by omega) dX4_chained_31 (by decide) (fun c_4 => absurd c_4 (by omega)) (fun c_4 => ?_)
          refine lv_aload_n hx hb dX4_chained_34 rfl (lv_at hl 0 rfl) ?_
          refine va_get (D := D) (ci := 4) (v := .ref f) (C := RX4) (T := TX4) (N := 4) hx hb hts ziX4_chained_4 hown hK hP 0 rfl rfl 1 (by decide) f25 (fun _ h9 => h9) rfl dX4_chained_35 ?_
          refine va_get (D := D) (ci := 0) (v := .int (nI le9)) (C := RX0) (T := TX0) (N := 8) hx hb hts ziX4_chained_0 hown hK hP 1 rfl rfl 6 (by decide) f76 (fun _ h9 => h9) rfl dX4_chained_38 ?_
          refine lv_goto (tgt := 51) hx hb dX4_chained_41 (by decide) ?_
          exact hret _ ls _ _ _ (fl, fd, fc, le9, di9) dX4_chained_51 (by rw [zA_pick, zk_val hpp (by omega), zk_win (by omega) (by decide), if_pos nI_0, nI_clamp (show pp < 2 ^ 31 by omega), hS9]) hP hS
        · subst hv0
          refine lv_aload_n hx hb dX4_chained_22 rfl (lv_at hl 0 rfl) ?_
          refine va_get (D := D) (ci := 4) (v := .ref f) (C := RX4) (T := TX4) (N := 4) hx hb hts ziX4_chained_4 hown hK hP 0 rfl rfl 1 (by decide) f25 (fun _ h9 => h9) rfl dX4_chained_23 ?_
          refine lv_iload_n hx hb dX4_chained_26 rfl (lv_at hl 1 rfl) ?_
          refine zk_wrV (As := [.int (nI pp)]) (rest := []) ⟨hx, hb, hml, hown, hts⟩ hN (c_seekChained l D cI cZ cR f sp dp fa fb fc le di fl fd t b ah sz g pp (by omega) (by omega) (by omega) (by omega) h4 (by omega)) (cwV 1 hts gX4_chained_X0_seekChained rfl rfl rfl (by decide +kernel) ⟨Nat.le_of_ble_eq_true rfl, Nat.le_of_ble_eq_true rfl⟩) hK hP (zk_D hD rfl) hS hA [1, 2, 3, 4, 5] rfl (by decide) (fun _ => rfl) rfl rfl rfl rfl hl.1 rfl (Nat.le_of_ble_eq_true rfl) dX4_chained_27 ⟨Nat.zero_le _, Nat.zero_le _⟩ (fun u H locs hu hP hS => ?_)
          obtain ⟨le9, di9⟩ := u
          have hu : zr_ch (fun d => zr_reach g (ah + pp) (ah + pp - d) (min 40 (sz - pp))) dp (min sp (ah + pp)) 1 0 0 0 = (le9, di9) := hu
          have hP : va_P D vwCl [(x_, .inr (4, [.ref t, .ref f, .ref k_, .ref q_])), (f, .inr (0, [.ref t, .int (nI sp), .int (nI dp), .ref fa, .ref fb, .int (nI fc), .int (nI le9), .int (nI di9)])), (fa, zk_a cI 38 fl), (fb, zk_a cI 38 fd), (t, .inr (3, [.ref b, .int (nI ah), .int (nI sz)])), (b, zk_a cI 360 g), (k_, .inr (1, [.ref ka, .ref kb, .ref kd])), (ka, zk_a cI 301 co), (kb, zk_a cI 300 pn), (kd, zk_a cI 300 pd), (q_, .inl (cR, 4, .inr (.inr (.inr (.inr rf))))), (r 0, .inr (2, [.ref (ra 0), .ref (rb 0), .ref (rd 0), .int (nI (ct 0)), .int (nI (pb 0)), .int (nI (bw 0)), .int (nI (rc 0)), .int (nI (to 0)), .int (nI (la 0)), .int (nI (se 0)), .int (nI (th 0))])), (ra 0, zk_a cI 300 (pl 0)), (rb 0, zk_a cI 300 (ln 0)), (rd 0, zk_a cI 300 (ds 0)), (r 1, .inr (2, [.ref (ra 1), .ref (rb 1), .ref (rd 1), .int (nI (ct 1)), .int (nI (pb 1)), .int (nI (bw 1)), .int (nI (rc 1)), .int (nI (to 1)), .int (nI (la 1)), .int (nI (se 1)), .int (nI (th 1))])), (ra 1, zk_a cI 300 (pl 1)), (rb 1, zk_a cI 300 (ln 1)), (rd 1, zk_a cI 300 (ds 1)), (r 2, .inr (2, [.ref (ra 2), .ref (rb 2), .ref (rd 2), .int (nI (ct 2)), .int (nI (pb 2)), .int (nI (bw 2)), .int (nI (rc 2)), .int (nI (to 2)), .int (nI (la 2)), .int (nI (se 2)), .int (nI (th 2))])), (ra 2, zk_a cI 300 (pl 2)), (rb 2, zk_a cI 300 (ln 2)), (rd 2, zk_a cI 300 (ds 2)), (r 3, .inr (2, [.ref (ra 3), .ref (rb 3), .ref (rd 3), .int (nI (ct 3)), .int (nI (pb 3)), .int (nI (bw 3)), .int (nI (rc 3)), .int (nI (to 3)), .int (nI (la 3)), .int (nI (se 3)), .int (nI (th 3))])), (ra 3, zk_a cI 300 (pl 3)), (rb 3, zk_a cI 300 (ln 3)), (rd 3, zk_a cI 300 (ds 3))] H := hP
          have hS9 : (zr_s1 g ah sz sp dp) pp = (le9, di9) := hu
          refine lv_iload_n hx hb dX4_chained_30 rfl (lv_at hl 2 rfl) ?_
          refine zk_if_ne (tgt := 44) hx hb (by omega) dX4_chained_31 (by decide) (fun c_5 => ?_) (fun c_5 => absurd c_5 (by omega))
          refine lv_aload_n hx hb dX4_chained_44 rfl (lv_at hl 0 rfl) ?_
          refine va_get (D := D) (ci := 4) (v := .ref f) (C := RX4) (T := TX4) (N := 4) hx hb hts ziX4_chained_4 hown hK hP 0 rfl rfl 1 (by decide) f25 (fun _ h9 => h9) rfl dX4_chained_45 ?_
          refine va_get (D := D) (ci := 0) (v := .int (nI di9)) (C := RX0) (T := TX0) (N := 8) hx hb hts ziX4_chained_0 hown hK hP 1 rfl rfl 7 (by decide) f79 (fun _ h9 => h9) rfl dX4_chained_48 ?_
          exact hret _ ls _ _ _ (fl, fd, fc, le9, di9) dX4_chained_51 (by rw [zA_pick, zk_val hpp (by omega), zk_win (by omega) (by decide), if_neg (by decide +kernel), nI_clamp (show pp < 2 ^ 31 by omega), hS9]) hP hS
      · skip
        refine lv_bipush (v := (-2)) hx hb dX4_chained_19 (by decide +kernel) ?_
        exact hret _ ls _ _ _ (fl, fd, fc, le, di) dX4_chained_21 (by rw [zA_pick, zk_val hpp (by omega), zk_wout (n := 1) (Or.inr c_3)]) hP hS
  · skip
    have hno := zk_wz0 c_1
    refine lv_iconst (v := (-1)) hx hb dX4_chained_8 (by decide +kernel) ?_
    exact hret _ ls _ _ _ (fl, fd, fc, le, di) dX4_chained_9 (by rw [zA_pick, zk_inv hno]) hP hS
def rmX4_front : Room := { frames := 3, cells := 0, slots := 0, locals := 68 }
set_option maxRecDepth 20000 in
theorem ziX4_front_0 : ∀ w ∈ wsX00, w ∈ wsX4_front := by decide +kernel
set_option maxRecDepth 20000 in
theorem ziX4_front_4 : ∀ w ∈ wsX40, w ∈ wsX4_front := by decide +kernel
set_option maxHeartbeats 4000000 in
set_option maxRecDepth 100000 in
/-- front -/
theorem c_front (l : Launch) (D : va_G) (cI cZ cR : ClassId) (x_ : Nat) (q_ : Nat) (t : Nat) (f : Nat) (k_ : Nat) (rf : Nat → Option Nat) (sp : Nat) (dp : Nat) (fa : Nat) (fb : Nat) (b : Nat) (ka : Nat) (kb : Nat) (kd : Nat) (r : Nat → Nat) (ra : Nat → Nat) (rb : Nat → Nat) (rd : Nat → Nat) (fl : Nat → Nat) (fd : Nat → Nat) (fc : Nat) (le : Nat) (di : Nat) (g : Nat → Nat) (ah : Nat) (sz : Nat) (co : Nat → Nat) (pn : Nat → Nat) (pd : Nat → Nat) (ct : Nat → Nat) (pb : Nat → Nat) (bw : Nat → Nat) (rc : Nat → Nat) (to : Nat → Nat) (la : Nat → Nat) (se : Nat → Nat) (th : Nat → Nat) (pl : Nat → Nat → Nat) (ln : Nat → Nat → Nat) (ds : Nat → Nat → Nat) (p_ : Int32) (k9 : Int32) (w_ : Int32) (h0 : ah ≤ 60) (h1 : sz ≤ 300) (h2 : sp ≤ 300) (h3 : dp ≤ 64) (h4 : ∀ j, g j < 256) (h5 : ∀ i, i < 4 → rf i = some (r i)) (h6 : zr_rows g ah sz sp dp to ct pb bw rc pl ln ds) : zk_Wi l yX4_front wsX4_front rmX4_front D (zk_t cI cZ cR) [.ref x_, .int p_, .int k9, .int w_] [(x_, .inr (4, [.ref t, .ref f, .ref k_, .ref q_])), (f, .inr (0, [.ref t, .int (nI sp), .int (nI dp), .ref fa, .ref fb, .int (nI fc), .int (nI le), .int (nI di)])), (fa, zk_a cI 38 fl), (fb, zk_a cI 38 fd), (t, .inr (3, [.ref b, .int (nI ah), .int (nI sz)])), (b, zk_a cI 360 g), (k_, .inr (1, [.ref ka, .ref kb, .ref kd])), (ka, zk_a cI 301 co), (kb, zk_a cI 300 pn), (kd, zk_a cI 300 pd), (q_, .inl (cR, 4, .inr (.inr (.inr (.inr rf))))), (r 0, .inr (2, [.ref (ra 0), .ref (rb 0), .ref (rd 0), .int (nI (ct 0)), .int (nI (pb 0)), .int (nI (bw 0)), .int (nI (rc 0)), .int (nI (to 0)), .int (nI (la 0)), .int (nI (se 0)), .int (nI (th 0))])), (ra 0, zk_a cI 300 (pl 0)), (rb 0, zk_a cI 300 (ln 0)), (rd 0, zk_a cI 300 (ds 0)), (r 1, .inr (2, [.ref (ra 1), .ref (rb 1), .ref (rd 1), .int (nI (ct 1)), .int (nI (pb 1)), .int (nI (bw 1)), .int (nI (rc 1)), .int (nI (to 1)), .int (nI (la 1)), .int (nI (se 1)), .int (nI (th 1))])), (ra 1, zk_a cI 300 (pl 1)), (rb 1, zk_a cI 300 (ln 1)), (rd 1, zk_a cI 300 (ds 1)), (r 2, .inr (2, [.ref (ra 2), .ref (rb 2), .ref (rd 2), .int (nI (ct 2)), .int (nI (pb 2)), .int (nI (bw 2)), .int (nI (rc 2)), .int (nI (to 2)), .int (nI (la 2)), .int (nI (se 2)), .int (nI (th 2))])), (ra 2, zk_a cI 300 (pl 2)), (rb 2, zk_a cI 300 (ln 2)), (rd 2, zk_a cI 300 (ds 2)), (r 3, .inr (2, [.ref (ra 3), .ref (rb 3), .ref (rd 3), .int (nI (ct 3)), .int (nI (pb 3)), .int (nI (bw 3)), .int (nI (rc 3)), .int (nI (to 3)), .int (nI (la 3)), .int (nI (se 3)), .int (nI (th 3))])), (ra 3, zk_a cI 300 (pl 3)), (rb 3, zk_a cI 300 (ln 3)), (rd 3, zk_a cI 300 (ds 3))] (fun (r : Int32) (u : (Nat → Nat) × (Nat → Nat) × Nat) => match u with | (fl2, fd2, fc2) => r = zA_front p_ k9 w_ sz (zr_Fp g ah sz sp)) (fun u => match u with | (fl2, fd2, fc2) => [(x_, .inr (4, [.ref t, .ref f, .ref k_, .ref q_])), (f, .inr (0, [.ref t, .int (nI sp), .int (nI dp), .ref fa, .ref fb, .int (nI fc2), .int (nI le), .int (nI di)])), (fa, zk_a cI 38 fl2), (fb, zk_a cI 38 fd2), (t, .inr (3, [.ref b, .int (nI ah), .int (nI sz)])), (b, zk_a cI 360 g), (k_, .inr (1, [.ref ka, .ref kb, .ref kd])), (ka, zk_a cI 301 co), (kb, zk_a cI 300 pn), (kd, zk_a cI 300 pd), (q_, .inl (cR, 4, .inr (.inr (.inr (.inr rf))))), (r 0, .inr (2, [.ref (ra 0), .ref (rb 0), .ref (rd 0), .int (nI (ct 0)), .int (nI (pb 0)), .int (nI (bw 0)), .int (nI (rc 0)), .int (nI (to 0)), .int (nI (la 0)), .int (nI (se 0)), .int (nI (th 0))])), (ra 0, zk_a cI 300 (pl 0)), (rb 0, zk_a cI 300 (ln 0)), (rd 0, zk_a cI 300 (ds 0)), (r 1, .inr (2, [.ref (ra 1), .ref (rb 1), .ref (rd 1), .int (nI (ct 1)), .int (nI (pb 1)), .int (nI (bw 1)), .int (nI (rc 1)), .int (nI (to 1)), .int (nI (la 1)), .int (nI (se 1)), .int (nI (th 1))])), (ra 1, zk_a cI 300 (pl 1)), (rb 1, zk_a cI 300 (ln 1)), (rd 1, zk_a cI 300 (ds 1)), (r 2, .inr (2, [.ref (ra 2), .ref (rb 2), .ref (rd 2), .int (nI (ct 2)), .int (nI (pb 2)), .int (nI (bw 2)), .int (nI (rc 2)), .int (nI (to 2)), .int (nI (la 2)), .int (nI (se 2)), .int (nI (th 2))])), (ra 2, zk_a cI 300 (pl 2)), (rb 2, zk_a cI 300 (ln 2)), (rd 2, zk_a cI 300 (ds 2)), (r 3, .inr (2, [.ref (ra 3), .ref (rb 3), .ref (rd 3), .int (nI (ct 3)), .int (nI (pb 3)), .int (nI (bw 3)), .int (nI (rc 3)), .int (nI (to 3)), .int (nI (la 3)), .int (nI (se 3)), .int (nI (th 3))])), (ra 3, zk_a cI 300 (pl 3)), (rb 3, zk_a cI 300 (ln 3)), (rd 3, zk_a cI 300 (ds 3))]) := by
  refine zk_enterI RX4 cX4_front 4 (by decide) rfl rfl (Nat.le_of_ble_eq_true rfl) ?_
  intro p e s m args below meth c ls A Q hx hb hml hown hts hP hK hD hN hl hA hS hret
  have hl : lv_has ls 4 [(0, .ref x_), (1, .int p_), (2, .int k9), (3, .int w_)] := hl
  have f25 := hts (.fieldLink RX4 25 "MatchFinders" "finder" "LMatchFinders$Finder;") (by decide +kernel)
  have f88 := hts (.fieldLink RX4 88 "MatchFinders$Finder" "frontCount" "I") (by decide +kernel)
  have f91 := hts (.fieldLink RX4 91 "MatchFinders$Finder" "frontLengths" "[I") (by decide +kernel)
  have f95 := hts (.fieldLink RX4 95 "MatchFinders$Finder" "frontDistances" "[I") (by decide +kernel)
  refine lv_aload_n hx hb dX4_front_0 rfl (lv_at hl 0 rfl) ?_
  refine lv_iload_n hx hb dX4_front_1 rfl (lv_at hl 1 rfl) ?_
  refine zk_rdV (As := [.int p_]) (rest := []) ⟨hx, hb, hml, hown, hts⟩ hN (c_isPlace l D cI cZ cR x_ q_ f k_ t b ah sz g p_) (cwV 1 hts gX4_front_X4_isPlace rfl rfl rfl (by decide +kernel) ⟨Nat.le_of_ble_eq_true rfl, Nat.le_of_ble_eq_true rfl⟩) hK hP (zk_D hD rfl) [0, 4, 5] rfl (by decide) rfl rfl rfl rfl hl.1 rfl (Nat.le_of_ble_eq_true rfl) dX4_front_2 ⟨Nat.zero_le _, Nat.zero_le _⟩ ?_
  refine lv_if_ne (tgt := 10) hx hb dX4_front_5 (by decide) (fun c_1 => ?_) (fun c_1 => ?_)
  · skip
    obtain ⟨pp, hpp, hpe⟩ := zk_wz2 (by omega) c_1
    subst hpe
    refine lv_aload_n hx hb dX4_front_10 rfl (lv_at hl 0 rfl) ?_
    refine va_get (D := D) (ci := 4) (v := .ref f) (C := RX4) (T := TX4) (N := 4) hx hb hts ziX4_front_4 hown hK hP 0 rfl rfl 1 (by decide) f25 (fun _ h9 => h9) rfl dX4_front_11 ?_
    refine lv_iload_n hx hb dX4_front_14 rfl (lv_at hl 1 rfl) ?_
    refine zk_wrV (As := [.int (nI pp)]) (rest := []) ⟨hx, hb, hml, hown, hts⟩ hN (c_gatherFront l D cI cZ cR f sp dp fa fb fc le di fl fd t b ah sz g pp (by omega) (by omega) (by omega) (by omega) h4) (cwV 1 hts gX4_front_X0_gatherFront rfl rfl rfl (by decide +kernel) ⟨Nat.le_of_ble_eq_true rfl, Nat.le_of_ble_eq_true rfl⟩) hK hP (zk_D hD rfl) hS hA [1, 2, 3, 4, 5] rfl (by decide) (fun _ => rfl) rfl rfl rfl rfl hl.1 rfl (Nat.le_of_ble_eq_true rfl) dX4_front_15 ⟨Nat.zero_le _, Nat.zero_le _⟩ (fun u H locs hu hP hS => ?_)
    obtain ⟨fl9, fd9, fc9⟩ := u
    have hu : zr_is (zr_F g (ah + pp) (min 40 (sz - pp)) (min sp (ah + pp))) fl9 fd9 fc9 := hu
    have hP : va_P D vwCl [(x_, .inr (4, [.ref t, .ref f, .ref k_, .ref q_])), (f, .inr (0, [.ref t, .int (nI sp), .int (nI dp), .ref fa, .ref fb, .int (nI fc9), .int (nI le), .int (nI di)])), (fa, zk_a cI 38 fl9), (fb, zk_a cI 38 fd9), (t, .inr (3, [.ref b, .int (nI ah), .int (nI sz)])), (b, zk_a cI 360 g), (k_, .inr (1, [.ref ka, .ref kb, .ref kd])), (ka, zk_a cI 301 co), (kb, zk_a cI 300 pn), (kd, zk_a cI 300 pd), (q_, .inl (cR, 4, .inr (.inr (.inr (.inr rf))))), (r 0, .inr (2, [.ref (ra 0), .ref (rb 0), .ref (rd 0), .int (nI (ct 0)), .int (nI (pb 0)), .int (nI (bw 0)), .int (nI (rc 0)), .int (nI (to 0)), .int (nI (la 0)), .int (nI (se 0)), .int (nI (th 0))])), (ra 0, zk_a cI 300 (pl 0)), (rb 0, zk_a cI 300 (ln 0)), (rd 0, zk_a cI 300 (ds 0)), (r 1, .inr (2, [.ref (ra 1), .ref (rb 1), .ref (rd 1), .int (nI (ct 1)), .int (nI (pb 1)), .int (nI (bw 1)), .int (nI (rc 1)), .int (nI (to 1)), .int (nI (la 1)), .int (nI (se 1)), .int (nI (th 1))])), (ra 1, zk_a cI 300 (pl 1)), (rb 1, zk_a cI 300 (ln 1)), (rd 1, zk_a cI 300 (ds 1)), (r 2, .inr (2, [.ref (ra 2), .ref (rb 2), .ref (rd 2), .int (nI (ct 2)), .int (nI (pb 2)), .int (nI (bw 2)), .int (nI (rc 2)), .int (nI (to 2)), .int (nI (la 2)), .int (nI (se 2)), .int (nI (th 2))])), (ra 2, zk_a cI 300 (pl 2)), (rb 2, zk_a cI 300 (ln 2)), (rd 2, zk_a cI 300 (ds 2)), (r 3, .inr (2, [.ref (ra 3), .ref (rb 3), .ref (rd 3), .int (nI (ct 3)), .int (nI (pb 3)), .int (nI (bw 3)), .int (nI (rc 3)), .int (nI (to 3)), .int (nI (la 3)), .int (nI (se 3)), .int (nI (th 3))])), (ra 3, zk_a cI 300 (pl 3)), (rb 3, zk_a cI 300 (ln 3)), (rd 3, zk_a cI 300 (ds 3))] H := hP
    have hF : zr_is (zr_Fp g ah sz sp pp) fl9 fd9 fc9 := hu
    have hfc := zr_is_len hu
    refine lv_iload_n hx hb dX4_front_18 rfl (lv_at hl 2 rfl) ?_
    refine lv_iconst (v := (-1)) hx hb dX4_front_19 (by decide +kernel) ?_
    refine lv_icmp_lt (tgt := 34) hx hb dX4_front_20 (by decide) (fun c_2 => ?_) (fun c_2 => ?_)
    · skip
      refine lv_iconst (v := (-1)) hx hb dX4_front_34 (by decide +kernel) ?_
      exact hret _ ls _ _ _ (fl9, fd9, fc9) dX4_front_35 (by rw [zA_front, zk_val hpp (by omega), nI_clamp (show pp < 2 ^ 31 by omega), if_pos c_2]) hP hS
    · skip
      refine lv_iload_n hx hb dX4_front_23 rfl (lv_at hl 2 rfl) ?_
      refine lv_aload_n hx hb dX4_front_24 rfl (lv_at hl 0 rfl) ?_
      refine va_get (D := D) (ci := 4) (v := .ref f) (C := RX4) (T := TX4) (N := 4) hx hb hts ziX4_front_4 hown hK hP 0 rfl rfl 1 (by decide) f25 (fun _ h9 => h9) rfl dX4_front_25 ?_
      refine va_get (D := D) (ci := 0) (v := .int (nI fc9)) (C := RX0) (T := TX0) (N := 8) hx hb hts ziX4_front_0 hown hK hP 1 rfl rfl 5 (by decide) f88 (fun _ h9 => h9) rfl dX4_front_28 ?_
      refine lv_icmp_lt (tgt := 36) hx hb dX4_front_31 (by decide) (fun c_3 => ?_) (fun c_3 => ?_)
      · skip
        refine lv_iload_n hx hb dX4_front_36 rfl (lv_at hl 3 rfl) ?_
        refine lv_if_lt (tgt := 45) hx hb dX4_front_37 (by decide) (fun c_4 => ?_) (fun c_4 => ?_)
        · skip
          refine lv_bipush (v := (-2)) hx hb dX4_front_45 (by decide +kernel) ?_
          exact hret _ ls _ _ _ (fl9, fd9, fc9) dX4_front_47 (by rw [zA_front, zk_val hpp (by omega), nI_clamp (show pp < 2 ^ 31 by omega), if_neg c_2, hF.1, if_neg (zk_ln c_3), zk_wout (n := 1) (Or.inl c_4)]) hP hS
        · skip
          refine lv_iload_n hx hb dX4_front_40 rfl (lv_at hl 3 rfl) ?_
          refine lv_iconst (v := (nI 1)) hx hb dX4_front_41 (by decide +kernel) ?_
          refine lv_icmp_le (tgt := 48) hx hb dX4_front_42 (by decide) (fun c_5 => ?_) (fun c_5 => ?_)
          · skip
            obtain ⟨v, hv, hve⟩ := zk_wof (n := 1) (by decide) c_4 c_5
            subst hve
            rcases (show v = 0 ∨ v = 1 by omega) with hv0 | hv0
            · subst hv0
              refine lv_iload_n hx hb dX4_front_48 rfl (lv_at hl 2 rfl) ?_
              refine lv_iconst (v := (-1)) hx hb dX4_front_49 (by decide +kernel) ?_
              refine lv_icmp_ne (tgt := 61) hx hb dX4_front_50 (by decide) (fun c_6 => ?_) (fun c_6 => ?_)
              · skip
                obtain ⟨kk, hkk, hke⟩ := zk_kn c_2 c_6 c_3 (by omega)
                subst hke
                have hm := zr_F_mem (zr_is_mem hF hkk)
                refine lv_iload_n hx hb dX4_front_61 rfl (lv_at hl 3 rfl) ?_
                refine zk_if_ne (tgt := 77) hx hb (by omega) dX4_front_62 (by decide) (fun c_7 => absurd c_7 (by omega)) (fun c_7 => ?_)
                refine lv_aload_n hx hb dX4_front_65 rfl (lv_at hl 0 rfl) ?_
                refine va_get (D := D) (ci := 4) (v := .ref f) (C := RX4) (T := TX4) (N := 4) hx hb hts ziX4_front_4 hown hK hP 0 rfl rfl 1 (by decide) f25 (fun _ h9 => h9) rfl dX4_front_66 ?_
                refine va_get (D := D) (ci := 0) (v := .ref fa) (C := RX0) (T := TX0) (N := 8) hx hb hts ziX4_front_0 hown hK hP 1 rfl rfl 3 (by decide) f91 (fun _ h9 => h9) rfl dX4_front_69 ?_
                refine lv_iload_n hx hb dX4_front_72 rfl (lv_at hl 2 rfl) ?_
                refine zk_ild (v := fl9 kk) hx hb hK hP 2 0 (i := kk) (g := fl9) rfl rfl (by omega) (by decide) rfl dX4_front_73 ?_
                refine lv_goto (tgt := 86) hx hb dX4_front_74 (by decide) ?_
                exact hret _ ls _ _ _ (fl9, fd9, fc9) dX4_front_86 (by rw [zA_front, zk_val hpp (by omega), nI_clamp (show pp < 2 ^ 31 by omega), if_neg c_2, hF.1, if_neg (zk_ln c_3), zk_win (by omega) (by decide), if_neg c_6, if_pos nI_0, nI_clamp (show kk < 2 ^ 31 by omega), zr_is_getD hF hkk]) hP hS
              · skip
                refine lv_aload_n hx hb dX4_front_53 rfl (lv_at hl 0 rfl) ?_
                refine va_get (D := D) (ci := 4) (v := .ref f) (C := RX4) (T := TX4) (N := 4) hx hb hts ziX4_front_4 hown hK hP 0 rfl rfl 1 (by decide) f25 (fun _ h9 => h9) rfl dX4_front_54 ?_
                refine va_get (D := D) (ci := 0) (v := .int (nI fc9)) (C := RX0) (T := TX0) (N := 8) hx hb hts ziX4_front_0 hown hK hP 1 rfl rfl 5 (by decide) f88 (fun _ h9 => h9) rfl dX4_front_57 ?_
                exact hret _ ls _ _ _ (fl9, fd9, fc9) dX4_front_60 (by rw [zA_front, zk_val hpp (by omega), nI_clamp (show pp < 2 ^ 31 by omega), if_neg c_2, hF.1, if_neg (zk_ln c_3), zk_win (by omega) (by decide), if_pos c_6]) hP hS
            · subst hv0
              refine lv_iload_n hx hb dX4_front_48 rfl (lv_at hl 2 rfl) ?_
              refine lv_iconst (v := (-1)) hx hb dX4_front_49 (by decide +kernel) ?_
              refine lv_icmp_ne (tgt := 61) hx hb dX4_front_50 (by decide) (fun c_8 => ?_) (fun c_8 => ?_)
              · skip
                obtain ⟨kk, hkk, hke⟩ := zk_kn c_2 c_8 c_3 (by omega)
                subst hke
                have hm := zr_F_mem (zr_is_mem hF hkk)
                refine lv_iload_n hx hb dX4_front_61 rfl (lv_at hl 3 rfl) ?_
                refine zk_if_ne (tgt := 77) hx hb (by omega) dX4_front_62 (by decide) (fun c_9 => ?_) (fun c_9 => absurd c_9 (by omega))
                refine lv_aload_n hx hb dX4_front_77 rfl (lv_at hl 0 rfl) ?_
                refine va_get (D := D) (ci := 4) (v := .ref f) (C := RX4) (T := TX4) (N := 4) hx hb hts ziX4_front_4 hown hK hP 0 rfl rfl 1 (by decide) f25 (fun _ h9 => h9) rfl dX4_front_78 ?_
                refine va_get (D := D) (ci := 0) (v := .ref fb) (C := RX0) (T := TX0) (N := 8) hx hb hts ziX4_front_0 hown hK hP 1 rfl rfl 4 (by decide) f95 (fun _ h9 => h9) rfl dX4_front_81 ?_
                refine lv_iload_n hx hb dX4_front_84 rfl (lv_at hl 2 rfl) ?_
                refine zk_ild (v := fd9 kk) hx hb hK hP 3 0 (i := kk) (g := fd9) rfl rfl (by omega) (by decide) rfl dX4_front_85 ?_
                exact hret _ ls _ _ _ (fl9, fd9, fc9) dX4_front_86 (by rw [zA_front, zk_val hpp (by omega), nI_clamp (show pp < 2 ^ 31 by omega), if_neg c_2, hF.1, if_neg (zk_ln c_3), zk_win (by omega) (by decide), if_neg c_8, if_neg (by decide +kernel), nI_clamp (show kk < 2 ^ 31 by omega), zr_is_getD hF hkk]) hP hS
              · skip
                refine lv_aload_n hx hb dX4_front_53 rfl (lv_at hl 0 rfl) ?_
                refine va_get (D := D) (ci := 4) (v := .ref f) (C := RX4) (T := TX4) (N := 4) hx hb hts ziX4_front_4 hown hK hP 0 rfl rfl 1 (by decide) f25 (fun _ h9 => h9) rfl dX4_front_54 ?_
                refine va_get (D := D) (ci := 0) (v := .int (nI fc9)) (C := RX0) (T := TX0) (N := 8) hx hb hts ziX4_front_0 hown hK hP 1 rfl rfl 5 (by decide) f88 (fun _ h9 => h9) rfl dX4_front_57 ?_
                exact hret _ ls _ _ _ (fl9, fd9, fc9) dX4_front_60 (by rw [zA_front, zk_val hpp (by omega), nI_clamp (show pp < 2 ^ 31 by omega), if_neg c_2, hF.1, if_neg (zk_ln c_3), zk_win (by omega) (by decide), if_pos c_8]) hP hS
          · skip
            refine lv_bipush (v := (-2)) hx hb dX4_front_45 (by decide +kernel) ?_
            exact hret _ ls _ _ _ (fl9, fd9, fc9) dX4_front_47 (by rw [zA_front, zk_val hpp (by omega), nI_clamp (show pp < 2 ^ 31 by omega), if_neg c_2, hF.1, if_neg (zk_ln c_3), zk_wout (n := 1) (Or.inr c_5)]) hP hS
      · skip
        refine lv_iconst (v := (-1)) hx hb dX4_front_34 (by decide +kernel) ?_
        exact hret _ ls _ _ _ (fl9, fd9, fc9) dX4_front_35 (by rw [zA_front, zk_val hpp (by omega), nI_clamp (show pp < 2 ^ 31 by omega), if_neg c_2, hF.1, if_pos (zk_nl c_3)]) hP hS
  · skip
    have hno := zk_wz0 c_1
    refine lv_iconst (v := (-1)) hx hb dX4_front_8 (by decide +kernel) ?_
    exact hret _ ls _ _ _ (fl, fd, fc) dX4_front_9 (by rw [zA_front, zk_inv hno]) hP hS
