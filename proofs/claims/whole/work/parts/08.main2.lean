/-! The answers of the calls, as functions of the text; the same for the class and for the reference. -/
theorem zk_wz2 {x : Int32} {n : Nat} (hn : n < 2 ^ 31) (h : ¬ (if x < 0 then nI 0 else if nI n ≤ x then nI 0 else nI 1) = 0) : ∃ j : Nat, j < n ∧ x = nI j := by
  by_cases h1 : x < 0
  · rw [if_pos h1] at h; exact absurd rfl h
  · by_cases h2 : nI n ≤ x
    · rw [if_neg h1, if_pos h2] at h; exact absurd rfl h
    · rcases pk_ix x hn with h3 | h3 | h3
      · exact absurd h3 h1
      · exact absurd h3 h2
      · exact h3
theorem zk_wz0 {x : Int32} {n : Nat} (h : (if x < 0 then nI 0 else if nI n ≤ x then nI 0 else nI 1) = 0) : x < 0 ∨ nI n ≤ x := by
  by_cases h1 : x < 0
  · exact Or.inl h1
  · by_cases h2 : nI n ≤ x
    · exact Or.inr h2
    · rw [if_neg h1, if_neg h2] at h; exact absurd h (by decide +kernel)
theorem zk_inv {α : Type} {x : Int32} {n : Nat} {a b : α} (h : x < 0 ∨ nI n ≤ x) : (if x < 0 then a else if nI n ≤ x then a else b) = a := by
  by_cases h1 : x < 0
  · rw [if_pos h1]
  · rw [if_neg h1, if_pos (h.resolve_left h1)]
theorem zk_val {α : Type} {j n : Nat} {a a' b : α} (hj : j < n) (hn : n < 2 ^ 31) : (if nI j < 0 then a else if nI n ≤ nI j then a' else b) = b := by
  rw [if_neg (nI_pos (by omega)), if_neg (nI_ge hj hn)]
/-- within 0 .. n, else -2 -/
theorem zk_win {α : Type} {j n : Nat} {a a' b : α} (hj : j ≤ n) (hn : n < 2 ^ 31) : (if nI j < 0 then a else if nI j ≤ nI n then b else a') = b := by
  rw [if_neg (nI_pos (by omega)), if_pos (nI_le hj hn)]
theorem zk_wout {α : Type} {x : Int32} {n : Nat} {a b : α} (h : x < 0 ∨ ¬ x ≤ nI n) : (if x < 0 then a else if x ≤ nI n then b else a) = a := by
  by_cases h1 : x < 0
  · rw [if_pos h1]
  · rw [if_neg h1, if_neg (h.resolve_left h1)]
theorem zk_wof {x : Int32} {n : Nat} (hn : n < 2 ^ 31) (h1 : ¬ x < 0) (h2 : x ≤ nI n) : ∃ j : Nat, j ≤ n ∧ x = nI j := nI_of2 (nI_toInt hn) h1 h2
def zT_add (b : Int32) (g : Nat → Nat) (ah sz : Nat) : Int32 × (Nat → Nat) × Nat × Nat := if b < 0 then (-2, g, ah, sz) else if b ≤ nI 255 then (if sz < 300 then (nI (sz + 1), zk_up g (ah + sz) b.toNatClampNeg, ah, sz + 1) else (-4, g, ah, sz)) else (-2, g, ah, sz)
/-- the number behind a place of a fill: x times 1103515245 and 12345 -/
def zr_nx (x : Int32) : Int32 := x * 1103515245 + nI 12345
def zr_hi (x : Int32) : Nat := x.toBitVec.toNat / 65536
/-- a byte of a fill -/
def zr_fb (z how bk : Nat) (g : Nat → Nat) (ah sz : Nat) : Nat := if how = 0 then z % 256 else if how = 1 then z % 3 else if z % 8 = 0 then z % 4 else if bk ≤ sz then g (ah + (sz - bk)) else z % 4
def zr_fl (how bk ah : Nat) : Nat → Int32 → (Nat → Nat) → Nat → (Nat → Nat) × Nat
  | 0, _, g, sz => (g, sz)
  | n + 1, x, g, sz => zr_fl how bk ah n (zr_nx x) (zk_up g (ah + sz) (zr_fb (zr_hi (zr_nx x)) how bk g ah sz)) (sz + 1)
def zT_fill (n seed how : Int32) (g : Nat → Nat) (ah sz : Nat) : Int32 × (Nat → Nat) × Nat × Nat :=
  if n < nI 1 then (-2, g, ah, sz) else if nI 300 < n then (-2, g, ah, sz) else if how < 0 then (-2, g, ah, sz) else if how ≤ nI 2 then
    (if n.toNatClampNeg + sz ≤ 300 then (nI (sz + n.toNatClampNeg), (zr_fl how.toNatClampNeg (1 + seed.toBitVec.toNat / 134217728) ah n.toNatClampNeg seed g sz).1, ah, sz + n.toNatClampNeg) else (-4, g, ah, sz)) else (-2, g, ah, sz)
def zA_size (w : Int32) (ah sz : Nat) : Int32 := if w = 0 then nI sz else if w = nI 1 then nI ah else -2
def zA_pick (pl w : Int32) (sz : Nat) (S : Nat → Nat × Nat) : Int32 := if pl < 0 then -1 else if nI sz ≤ pl then -1 else if w < 0 then -2 else if w ≤ nI 1 then (if w = 0 then nI (S pl.toNatClampNeg).1 else nI (S pl.toNatClampNeg).2) else -2
def zA_front (pl k w : Int32) (sz : Nat) (F : Nat → List (Nat × Nat)) : Int32 := if pl < 0 then -1 else if nI sz ≤ pl then -1 else if k < -1 then -1 else if nI (F pl.toNatClampNeg).length ≤ k then -1 else if w < 0 then -2 else if w ≤ nI 1 then (if k = -1 then nI (F pl.toNatClampNeg).length else if w = 0 then nI ((F pl.toNatClampNeg).getD k.toNatClampNeg (0, 0)).1 else nI ((F pl.toNatClampNeg).getD k.toNatClampNeg (0, 0)).2) else -2
def zA_way (w : Int32) (X : Nat → Int32) : Int32 := if w < 0 then -1 else if nI 4 ≤ w then -1 else X w.toNatClampNeg
def zA_what (w a b : Int32) : Int32 := if w < 0 then -2 else if w ≤ nI 1 then (if w = 0 then a else b) else -2
def zA_piece (i w : Int32) (ct : Nat) (pl ln ds : Nat → Nat) : Int32 := if i < 0 then -1 else if nI ct ≤ i then -1 else if w = nI 0 then nI (pl i.toNatClampNeg) else if w = nI 1 then nI (ln i.toNatClampNeg) else if w = nI 2 then nI (ds i.toNatClampNeg) else -2
def zr_rows (g : Nat → Nat) (ah sz sp dp : Nat) (to ct pb bw rc : Nat → Nat) (pl ln ds : Nat → Nat → Nat) : Prop := ∀ i, i < 4 → to i = 0 ∨ (to i = 1 ∧ zr_row i g ah sz sp dp (ct i) (pb i) (bw i) (rc i) (pl i) (ln i) (ds i))
theorem zr_rows_0 {g : Nat → Nat} {ah sz sp dp : Nat} {ct pb bw rc : Nat → Nat} {pl ln ds : Nat → Nat → Nat} : zr_rows g ah sz sp dp (fun _ => 0) ct pb bw rc pl ln ds := fun _ _ => Or.inl rfl
def zk_upF (g : Nat → Nat → Nat) (i : Nat) (x : Nat → Nat) : Nat → Nat → Nat := fun j => if j = i then x else g j
theorem zr_rows_up {g : Nat → Nat} {ah sz sp dp w : Nat} {to ct pb bw rc : Nat → Nat} {pl ln ds : Nat → Nat → Nat} {a b c d : Nat} {x y z : Nat → Nat} (h : zr_rows g ah sz sp dp to ct pb bw rc pl ln ds) (hr : zr_row w g ah sz sp dp a b c d x y z) : zr_rows g ah sz sp dp (zk_up to w 1) (zk_up ct w a) (zk_up pb w b) (zk_up bw w c) (zk_up rc w d) (zk_upF pl w x) (zk_upF ln w y) (zk_upF ds w z) := fun i hi => by
  by_cases hw : i = w
  · subst hw
    refine Or.inr ⟨zk_up_eq _ _ _, ?_⟩
    simp only [zk_up_eq, zk_upF, if_true]
    exact hr
  · rw [zk_up_ne hw, zk_up_ne hw, zk_up_ne hw, zk_up_ne hw, zk_up_ne hw]
    simp only [zk_upF, if_neg hw]
    exact h i hi
theorem zr_irem {z n : Nat} (hz : z < 65536) (h0 : 0 < n) (hn : n < 2 ^ 31) : nI z - nI z / nI n * nI n = nI (z % n) := pk_rem (by omega) h0 hn
theorem zr_at_nat {g : Nat → Nat} {ah sz j : Nat} (hs : sz ≤ 300) (ha : ah ≤ 60) (hj : j < sz) : zr_at g ah sz (nI j) = nI (g (ah + j)) := by
  rw [zr_at, if_neg, if_neg (nI_ge hj (by omega)), nI_toInt (by omega)]
  · congr 2; omega
  · rw [Int32.lt_iff_toInt_lt, zr_negT (by omega), nI_toInt (by omega)]; omega
theorem zr_ush16 (x : Int32) : (x.toUInt32 >>> ((nI 16).toUInt32 &&& Int32.toUInt32 31)).toInt32 = nI (zr_hi x) := by
  obtain ⟨n, hn, rfl⟩ : ∃ n : Nat, n < 2 ^ 32 ∧ x = nI n := ⟨x.toBitVec.toNat, x.toBitVec.isLt, by apply Int32.toBitVec_inj.mp; simp [nI, Int32.ofNat]⟩
  rw [pk_ushrN hn _ 16 (by decide +kernel), zr_hi, pk_tn hn]
theorem zr_ush27 (x : Int32) : (x.toUInt32 >>> ((nI 27).toUInt32 &&& Int32.toUInt32 31)).toInt32 = nI (x.toBitVec.toNat / 134217728) := by
  obtain ⟨n, hn, rfl⟩ : ∃ n : Nat, n < 2 ^ 32 ∧ x = nI n := ⟨x.toBitVec.toNat, x.toBitVec.isLt, by apply Int32.toBitVec_inj.mp; simp [nI, Int32.ofNat]⟩
  rw [pk_ushrN hn _ 27 (by decide +kernel), pk_tn hn]
theorem zr_hi_lt (x : Int32) : zr_hi x < 65536 := by
  have h := x.toBitVec.isLt
  unfold zr_hi
  omega
theorem zr_bk_lt (x : Int32) : x.toBitVec.toNat / 134217728 < 32 := by
  have h := x.toBitVec.isLt
  omega
theorem zr_fb_lt {z how bk : Nat} {g : Nat → Nat} {ah sz : Nat} (hg : ∀ j, g j < 256) : zr_fb z how bk g ah sz < 256 := by
  unfold zr_fb
  split
  · omega
  · split
    · omega
    · split
      · omega
      · split
        · exact hg _
        · omega
theorem zk_up_lt {g : Nat → Nat} {i x : Nat} (hg : ∀ j, g j < 256) (hx : x < 256) : ∀ j, zk_up g i x j < 256 := fun j => by
  by_cases h : j = i
  · subst h; rw [zk_up_eq]; exact hx
  · rw [zk_up_ne h]; exact hg j
theorem zr_fl_sz (how bk ah : Nat) : ∀ (n : Nat) (x : Int32) (g : Nat → Nat) (sz : Nat), (zr_fl how bk ah n x g sz).2 = sz + n
  | 0, _, _, _ => rfl
  | n + 1, x, g, sz => by rw [zr_fl, zr_fl_sz how bk ah n]; omega
theorem zr_fl_s {how bk ah n m : Nat} {x : Int32} {g : Nat → Nat} {sz : Nat} (hn : n = m + 1) : zr_fl how bk ah n x g sz = zr_fl how bk ah m (zr_nx x) (zk_up g (ah + sz) (zr_fb (zr_hi (zr_nx x)) how bk g ah sz)) (sz + 1) := by
  subst hn; rfl
theorem zk_fn {x : Int32} (h1 : ¬ x < nI 1) (h2 : ¬ nI 300 < x) : ∃ j : Nat, 1 ≤ j ∧ j ≤ 300 ∧ x = nI j := by
  rw [Int32.lt_iff_toInt_lt, nI_toInt (by decide)] at h1 h2
  refine ⟨x.toInt.toNat, by omega, by omega, ?_⟩
  apply Int32.toInt_inj.mp
  rw [nI_toInt (by omega)]
  omega
theorem zk_nlt1 {n : Nat} (h1 : 1 ≤ n) (h2 : n ≤ 300) : ¬ nI n < nI 1 := nI_nlt h1 (by omega)
def rmX4_add : Room := { frames := 1, cells := 0, slots := 0, locals := 21 }
set_option maxRecDepth 20000 in
theorem ziX4_add_3 : ∀ w ∈ wsX30, w ∈ wsX4_add := by decide +kernel
set_option maxRecDepth 20000 in
theorem ziX4_add_4 : ∀ w ∈ wsX40, w ∈ wsX4_add := by decide +kernel
set_option maxHeartbeats 4000000 in
set_option maxRecDepth 100000 in
/-- add -/
theorem c_add (l : Launch) (D : va_G) (cI cZ cR : ClassId) (x_ : Nat) (q_ : Nat) (t : Nat) (f : Nat) (k_ : Nat) (rf : Nat → Option Nat) (sp : Nat) (dp : Nat) (fa : Nat) (fb : Nat) (b : Nat) (ka : Nat) (kb : Nat) (kd : Nat) (r : Nat → Nat) (ra : Nat → Nat) (rb : Nat → Nat) (rd : Nat → Nat) (fl : Nat → Nat) (fd : Nat → Nat) (fc : Nat) (le : Nat) (di : Nat) (g : Nat → Nat) (ah : Nat) (sz : Nat) (co : Nat → Nat) (pn : Nat → Nat) (pd : Nat → Nat) (ct : Nat → Nat) (pb : Nat → Nat) (bw : Nat → Nat) (rc : Nat → Nat) (to : Nat → Nat) (la : Nat → Nat) (se : Nat → Nat) (th : Nat → Nat) (pl : Nat → Nat → Nat) (ln : Nat → Nat → Nat) (ds : Nat → Nat → Nat) (b_ : Int32) (h0 : ah ≤ 60) (h1 : sz ≤ 300) (h2 : sp ≤ 300) (h3 : dp ≤ 64) (h4 : ∀ j, g j < 256) (h5 : ∀ i, i < 4 → rf i = some (r i)) (h6 : zr_rows g ah sz sp dp to ct pb bw rc pl ln ds) : zk_Wi l yX4_add wsX4_add rmX4_add D (zk_t cI cZ cR) [.ref x_, .int b_] [(x_, .inr (4, [.ref t, .ref f, .ref k_, .ref q_])), (f, .inr (0, [.ref t, .int (nI sp), .int (nI dp), .ref fa, .ref fb, .int (nI fc), .int (nI le), .int (nI di)])), (fa, zk_a cI 38 fl), (fb, zk_a cI 38 fd), (t, .inr (3, [.ref b, .int (nI ah), .int (nI sz)])), (b, zk_a cI 360 g), (k_, .inr (1, [.ref ka, .ref kb, .ref kd])), (ka, zk_a cI 301 co), (kb, zk_a cI 300 pn), (kd, zk_a cI 300 pd), (q_, .inl (cR, 4, .inr (.inr (.inr (.inr rf))))), (r 0, .inr (2, [.ref (ra 0), .ref (rb 0), .ref (rd 0), .int (nI (ct 0)), .int (nI (pb 0)), .int (nI (bw 0)), .int (nI (rc 0)), .int (nI (to 0)), .int (nI (la 0)), .int (nI (se 0)), .int (nI (th 0))])), (ra 0, zk_a cI 300 (pl 0)), (rb 0, zk_a cI 300 (ln 0)), (rd 0, zk_a cI 300 (ds 0)), (r 1, .inr (2, [.ref (ra 1), .ref (rb 1), .ref (rd 1), .int (nI (ct 1)), .int (nI (pb 1)), .int (nI (bw 1)), .int (nI (rc 1)), .int (nI (to 1)), .int (nI (la 1)), .int (nI (se 1)), .int (nI (th 1))])), (ra 1, zk_a cI 300 (pl 1)), (rb 1, zk_a cI 300 (ln 1)), (rd 1, zk_a cI 300 (ds 1)), (r 2, .inr (2, [.ref (ra 2), .ref (rb 2), .ref (rd 2), .int (nI (ct 2)), .int (nI (pb 2)), .int (nI (bw 2)), .int (nI (rc 2)), .int (nI (to 2)), .int (nI (la 2)), .int (nI (se 2)), .int (nI (th 2))])), (ra 2, zk_a cI 300 (pl 2)), (rb 2, zk_a cI 300 (ln 2)), (rd 2, zk_a cI 300 (ds 2)), (r 3, .inr (2, [.ref (ra 3), .ref (rb 3), .ref (rd 3), .int (nI (ct 3)), .int (nI (pb 3)), .int (nI (bw 3)), .int (nI (rc 3)), .int (nI (to 3)), .int (nI (la 3)), .int (nI (se 3)), .int (nI (th 3))])), (ra 3, zk_a cI 300 (pl 3)), (rb 3, zk_a cI 300 (ln 3)), (rd 3, zk_a cI 300 (ds 3))] (fun (r : Int32) (u : (Nat → Nat) × Nat × Nat × (Nat → Nat)) => match u with | (g2, ah2, sz2, to2) => zT_add b_ g ah sz = (r, g2, ah2, sz2) ∧ zr_rows g2 ah2 sz2 sp dp to2 ct pb bw rc pl ln ds) (fun u => match u with | (g2, ah2, sz2, to2) => [(x_, .inr (4, [.ref t, .ref f, .ref k_, .ref q_])), (f, .inr (0, [.ref t, .int (nI sp), .int (nI dp), .ref fa, .ref fb, .int (nI fc), .int (nI le), .int (nI di)])), (fa, zk_a cI 38 fl), (fb, zk_a cI 38 fd), (t, .inr (3, [.ref b, .int (nI ah2), .int (nI sz2)])), (b, zk_a cI 360 g2), (k_, .inr (1, [.ref ka, .ref kb, .ref kd])), (ka, zk_a cI 301 co), (kb, zk_a cI 300 pn), (kd, zk_a cI 300 pd), (q_, .inl (cR, 4, .inr (.inr (.inr (.inr rf))))), (r 0, .inr (2, [.ref (ra 0), .ref (rb 0), .ref (rd 0), .int (nI (ct 0)), .int (nI (pb 0)), .int (nI (bw 0)), .int (nI (rc 0)), .int (nI (to2 0)), .int (nI (la 0)), .int (nI (se 0)), .int (nI (th 0))])), (ra 0, zk_a cI 300 (pl 0)), (rb 0, zk_a cI 300 (ln 0)), (rd 0, zk_a cI 300 (ds 0)), (r 1, .inr (2, [.ref (ra 1), .ref (rb 1), .ref (rd 1), .int (nI (ct 1)), .int (nI (pb 1)), .int (nI (bw 1)), .int (nI (rc 1)), .int (nI (to2 1)), .int (nI (la 1)), .int (nI (se 1)), .int (nI (th 1))])), (ra 1, zk_a cI 300 (pl 1)), (rb 1, zk_a cI 300 (ln 1)), (rd 1, zk_a cI 300 (ds 1)), (r 2, .inr (2, [.ref (ra 2), .ref (rb 2), .ref (rd 2), .int (nI (ct 2)), .int (nI (pb 2)), .int (nI (bw 2)), .int (nI (rc 2)), .int (nI (to2 2)), .int (nI (la 2)), .int (nI (se 2)), .int (nI (th 2))])), (ra 2, zk_a cI 300 (pl 2)), (rb 2, zk_a cI 300 (ln 2)), (rd 2, zk_a cI 300 (ds 2)), (r 3, .inr (2, [.ref (ra 3), .ref (rb 3), .ref (rd 3), .int (nI (ct 3)), .int (nI (pb 3)), .int (nI (bw 3)), .int (nI (rc 3)), .int (nI (to2 3)), .int (nI (la 3)), .int (nI (se 3)), .int (nI (th 3))])), (ra 3, zk_a cI 300 (pl 3)), (rb 3, zk_a cI 300 (ln 3)), (rd 3, zk_a cI 300 (ds 3))]) := by
  refine zk_enterI RX4 cX4_add 2 (by decide) rfl rfl (Nat.le_of_ble_eq_true rfl) ?_
  intro p e s m args below meth c ls A Q hx hb hml hown hts hP hK hD hN hl hA hS hret
  have hl : lv_has ls 2 [(0, .ref x_), (1, .int b_)] := hl
  have f12 := hts (.fieldLink RX4 12 "MatchFinders" "text" "LMatchFinders$Text;") (by decide +kernel)
  have f43 := hts (.fieldLink RX4 43 "MatchFinders$Text" "size" "I") (by decide +kernel)
  refine lv_iload_n hx hb dX4_add_0 rfl (lv_at hl 1 rfl) ?_
  refine lv_if_lt (tgt := 11) hx hb dX4_add_1 (by decide) (fun c_1 => ?_) (fun c_1 => ?_)
  · skip
    refine lv_bipush (v := (-2)) hx hb dX4_add_11 (by decide +kernel) ?_
    exact hret _ ls _ _ _ (g, ah, sz, to) dX4_add_13 ⟨by rw [zT_add, if_pos c_1], h6⟩ hP hS
  · skip
    refine lv_iload_n hx hb dX4_add_4 rfl (lv_at hl 1 rfl) ?_
    refine lv_sipush (v := (nI 255)) hx hb dX4_add_5 (by decide +kernel) ?_
    refine lv_icmp_le (tgt := 14) hx hb dX4_add_8 (by decide) (fun c_2 => ?_) (fun c_2 => ?_)
    · skip
      obtain ⟨j, hj, hbj⟩ := zk_wof (n := 255) (by decide) c_1 c_2
      subst hbj
      refine lv_aload_n hx hb dX4_add_14 rfl (lv_at hl 0 rfl) ?_
      refine va_get (D := D) (ci := 4) (v := .ref t) (C := RX4) (T := TX4) (N := 4) hx hb hts ziX4_add_4 hown hK hP 0 rfl rfl 0 (by decide) f12 (fun _ h9 => h9) rfl dX4_add_15 ?_
      refine va_get (D := D) (ci := 3) (v := .int (nI sz)) (C := RX3) (T := TX3) (N := 3) hx hb hts ziX4_add_3 hown hK hP 4 rfl rfl 2 (by decide) f43 (fun _ h9 => h9) rfl dX4_add_18 ?_
      refine lv_sipush (v := (nI 300)) hx hb dX4_add_21 (by decide +kernel) ?_
      refine zk_icmp_lt (tgt := 30) hx hb (by omega) (by omega) dX4_add_24 (by decide) (fun c_3 => ?_) (fun c_3 => ?_)
      · skip
        refine lv_aload_n hx hb dX4_add_30 rfl (lv_at hl 0 rfl) ?_
        refine va_get (D := D) (ci := 4) (v := .ref t) (C := RX4) (T := TX4) (N := 4) hx hb hts ziX4_add_4 hown hK hP 0 rfl rfl 0 (by decide) f12 (fun _ h9 => h9) rfl dX4_add_31 ?_
        refine lv_iload_n hx hb dX4_add_34 rfl (lv_at hl 1 rfl) ?_
        refine zk_wrV (As := [.int (nI j)]) (rest := []) ⟨hx, hb, hml, hown, hts⟩ hN (c_put l D cI cZ cR t b ah sz g j (by omega) (by omega)) (cwV 1 hts gX4_add_X3_put rfl rfl rfl (by decide +kernel) ⟨Nat.le_of_ble_eq_true rfl, Nat.le_of_ble_eq_true rfl⟩) hK hP (zk_D hD rfl) hS hA [4, 5] rfl (by decide) (fun _ => rfl) rfl rfl rfl rfl hl.1 rfl (Nat.le_of_ble_eq_true rfl) dX4_add_35 ⟨Nat.zero_le _, Nat.zero_le _⟩ (fun u H locs hu1 hP hS => ?_)
        have hP : va_P D vwCl [(x_, .inr (4, [.ref t, .ref f, .ref k_, .ref q_])), (f, .inr (0, [.ref t, .int (nI sp), .int (nI dp), .ref fa, .ref fb, .int (nI fc), .int (nI le), .int (nI di)])), (fa, zk_a cI 38 fl), (fb, zk_a cI 38 fd), (t, .inr (3, [.ref b, .int (nI ah), .int (nI (sz + 1))])), (b, zk_a cI 360 (zk_up g (ah + sz) j)), (k_, .inr (1, [.ref ka, .ref kb, .ref kd])), (ka, zk_a cI 301 co), (kb, zk_a cI 300 pn), (kd, zk_a cI 300 pd), (q_, .inl (cR, 4, .inr (.inr (.inr (.inr rf))))), (r 0, .inr (2, [.ref (ra 0), .ref (rb 0), .ref (rd 0), .int (nI (ct 0)), .int (nI (pb 0)), .int (nI (bw 0)), .int (nI (rc 0)), .int (nI (to 0)), .int (nI (la 0)), .int (nI (se 0)), .int (nI (th 0))])), (ra 0, zk_a cI 300 (pl 0)), (rb 0, zk_a cI 300 (ln 0)), (rd 0, zk_a cI 300 (ds 0)), (r 1, .inr (2, [.ref (ra 1), .ref (rb 1), .ref (rd 1), .int (nI (ct 1)), .int (nI (pb 1)), .int (nI (bw 1)), .int (nI (rc 1)), .int (nI (to 1)), .int (nI (la 1)), .int (nI (se 1)), .int (nI (th 1))])), (ra 1, zk_a cI 300 (pl 1)), (rb 1, zk_a cI 300 (ln 1)), (rd 1, zk_a cI 300 (ds 1)), (r 2, .inr (2, [.ref (ra 2), .ref (rb 2), .ref (rd 2), .int (nI (ct 2)), .int (nI (pb 2)), .int (nI (bw 2)), .int (nI (rc 2)), .int (nI (to 2)), .int (nI (la 2)), .int (nI (se 2)), .int (nI (th 2))])), (ra 2, zk_a cI 300 (pl 2)), (rb 2, zk_a cI 300 (ln 2)), (rd 2, zk_a cI 300 (ds 2)), (r 3, .inr (2, [.ref (ra 3), .ref (rb 3), .ref (rd 3), .int (nI (ct 3)), .int (nI (pb 3)), .int (nI (bw 3)), .int (nI (rc 3)), .int (nI (to 3)), .int (nI (la 3)), .int (nI (se 3)), .int (nI (th 3))])), (ra 3, zk_a cI 300 (pl 3)), (rb 3, zk_a cI 300 (ln 3)), (rd 3, zk_a cI 300 (ds 3))] H := hP
        refine lv_aload_n hx hb dX4_add_38 rfl (lv_at hl 0 rfl) ?_
        refine zk_wrV (As := []) (rest := []) ⟨hx, hb, hml, hown, hts⟩ hN (c_forgetRows l D cI cZ cR x_ q_ t f k_ rf (r 0) (ra 0) (rb 0) (rd 0) (ct 0) (pb 0) (bw 0) (rc 0) (to 0) (la 0) (se 0) (th 0) (r 1) (ra 1) (rb 1) (rd 1) (ct 1) (pb 1) (bw 1) (rc 1) (to 1) (la 1) (se 1) (th 1) (r 2) (ra 2) (rb 2) (rd 2) (ct 2) (pb 2) (bw 2) (rc 2) (to 2) (la 2) (se 2) (th 2) (r 3) (ra 3) (rb 3) (rd 3) (ct 3) (pb 3) (bw 3) (rc 3) (to 3) (la 3) (se 3) (th 3) (h5 0 (by omega)) (h5 1 (by omega)) (h5 2 (by omega)) (h5 3 (by omega))) (cwV 0 hts gX4_add_X4_forgetRows rfl rfl rfl (by decide +kernel) ⟨Nat.le_of_ble_eq_true rfl, Nat.le_of_ble_eq_true rfl⟩) hK hP (zk_D hD rfl) hS hA [0, 10, 11, 15, 19, 23] rfl (by decide) (fun _ => rfl) rfl rfl rfl rfl hl.1 rfl (Nat.le_of_ble_eq_true rfl) dX4_add_39 ⟨Nat.zero_le _, Nat.zero_le _⟩ (fun u H locs hu2 hP hS => ?_)
        have hP : va_P D vwCl [(x_, .inr (4, [.ref t, .ref f, .ref k_, .ref q_])), (f, .inr (0, [.ref t, .int (nI sp), .int (nI dp), .ref fa, .ref fb, .int (nI fc), .int (nI le), .int (nI di)])), (fa, zk_a cI 38 fl), (fb, zk_a cI 38 fd), (t, .inr (3, [.ref b, .int (nI ah), .int (nI (sz + 1))])), (b, zk_a cI 360 (zk_up g (ah + sz) j)), (k_, .inr (1, [.ref ka, .ref kb, .ref kd])), (ka, zk_a cI 301 co), (kb, zk_a cI 300 pn), (kd, zk_a cI 300 pd), (q_, .inl (cR, 4, .inr (.inr (.inr (.inr rf))))), (r 0, .inr (2, [.ref (ra 0), .ref (rb 0), .ref (rd 0), .int (nI (ct 0)), .int (nI (pb 0)), .int (nI (bw 0)), .int (nI (rc 0)), .int (nI 0), .int (nI (la 0)), .int (nI (se 0)), .int (nI (th 0))])), (ra 0, zk_a cI 300 (pl 0)), (rb 0, zk_a cI 300 (ln 0)), (rd 0, zk_a cI 300 (ds 0)), (r 1, .inr (2, [.ref (ra 1), .ref (rb 1), .ref (rd 1), .int (nI (ct 1)), .int (nI (pb 1)), .int (nI (bw 1)), .int (nI (rc 1)), .int (nI 0), .int (nI (la 1)), .int (nI (se 1)), .int (nI (th 1))])), (ra 1, zk_a cI 300 (pl 1)), (rb 1, zk_a cI 300 (ln 1)), (rd 1, zk_a cI 300 (ds 1)), (r 2, .inr (2, [.ref (ra 2), .ref (rb 2), .ref (rd 2), .int (nI (ct 2)), .int (nI (pb 2)), .int (nI (bw 2)), .int (nI (rc 2)), .int (nI 0), .int (nI (la 2)), .int (nI (se 2)), .int (nI (th 2))])), (ra 2, zk_a cI 300 (pl 2)), (rb 2, zk_a cI 300 (ln 2)), (rd 2, zk_a cI 300 (ds 2)), (r 3, .inr (2, [.ref (ra 3), .ref (rb 3), .ref (rd 3), .int (nI (ct 3)), .int (nI (pb 3)), .int (nI (bw 3)), .int (nI (rc 3)), .int (nI 0), .int (nI (la 3)), .int (nI (se 3)), .int (nI (th 3))])), (ra 3, zk_a cI 300 (pl 3)), (rb 3, zk_a cI 300 (ln 3)), (rd 3, zk_a cI 300 (ds 3))] H := hP
        refine lv_aload_n hx hb dX4_add_42 rfl (lv_at hl 0 rfl) ?_
        refine va_get (D := D) (ci := 4) (v := .ref t) (C := RX4) (T := TX4) (N := 4) hx hb hts ziX4_add_4 hown hK hP 0 rfl rfl 0 (by decide) f12 (fun _ h9 => h9) rfl dX4_add_43 ?_
        refine va_get (D := D) (ci := 3) (v := .int (nI (sz + 1))) (C := RX3) (T := TX3) (N := 3) hx hb hts ziX4_add_3 hown hK hP 4 rfl rfl 2 (by decide) f43 (fun _ h9 => h9) rfl dX4_add_46 ?_
        exact hret _ ls _ _ _ (_, _, _, fun _ => 0) dX4_add_49 ⟨by rw [zT_add, zk_win hj (by decide), if_pos (by omega), nI_clamp (by omega)], zr_rows_0⟩ hP hS
      · skip
        refine lv_bipush (v := (-4)) hx hb dX4_add_27 (by decide +kernel) ?_
        exact hret _ ls _ _ _ (g, ah, sz, to) dX4_add_29 ⟨by rw [zT_add, zk_win hj (by decide), if_neg (by omega)], h6⟩ hP hS
    · skip
      refine lv_bipush (v := (-2)) hx hb dX4_add_11 (by decide +kernel) ?_
      exact hret _ ls _ _ _ (g, ah, sz, to) dX4_add_13 ⟨by rw [zT_add, if_neg c_1, if_neg c_2], h6⟩ hP hS
def rmX4_clear : Room := { frames := 1, cells := 0, slots := 0, locals := 21 }
set_option maxRecDepth 20000 in
theorem ziX4_clear_3 : ∀ w ∈ wsX30, w ∈ wsX4_clear := by decide +kernel
set_option maxRecDepth 20000 in
theorem ziX4_clear_4 : ∀ w ∈ wsX40, w ∈ wsX4_clear := by decide +kernel
set_option maxHeartbeats 4000000 in
set_option maxRecDepth 100000 in
/-- clear -/
theorem c_clear (l : Launch) (D : va_G) (cI cZ cR : ClassId) (x_ : Nat) (q_ : Nat) (t : Nat) (f : Nat) (k_ : Nat) (rf : Nat → Option Nat) (sp : Nat) (dp : Nat) (fa : Nat) (fb : Nat) (b : Nat) (ka : Nat) (kb : Nat) (kd : Nat) (r : Nat → Nat) (ra : Nat → Nat) (rb : Nat → Nat) (rd : Nat → Nat) (fl : Nat → Nat) (fd : Nat → Nat) (fc : Nat) (le : Nat) (di : Nat) (g : Nat → Nat) (ah : Nat) (sz : Nat) (co : Nat → Nat) (pn : Nat → Nat) (pd : Nat → Nat) (ct : Nat → Nat) (pb : Nat → Nat) (bw : Nat → Nat) (rc : Nat → Nat) (to : Nat → Nat) (la : Nat → Nat) (se : Nat → Nat) (th : Nat → Nat) (pl : Nat → Nat → Nat) (ln : Nat → Nat → Nat) (ds : Nat → Nat → Nat) (h0 : ah ≤ 60) (h1 : sz ≤ 300) (h2 : sp ≤ 300) (h3 : dp ≤ 64) (h4 : ∀ j, g j < 256) (h5 : ∀ i, i < 4 → rf i = some (r i)) (h6 : zr_rows g ah sz sp dp to ct pb bw rc pl ln ds) : zk_Wi l yX4_clear wsX4_clear rmX4_clear D (zk_t cI cZ cR) [.ref x_] [(x_, .inr (4, [.ref t, .ref f, .ref k_, .ref q_])), (f, .inr (0, [.ref t, .int (nI sp), .int (nI dp), .ref fa, .ref fb, .int (nI fc), .int (nI le), .int (nI di)])), (fa, zk_a cI 38 fl), (fb, zk_a cI 38 fd), (t, .inr (3, [.ref b, .int (nI ah), .int (nI sz)])), (b, zk_a cI 360 g), (k_, .inr (1, [.ref ka, .ref kb, .ref kd])), (ka, zk_a cI 301 co), (kb, zk_a cI 300 pn), (kd, zk_a cI 300 pd), (q_, .inl (cR, 4, .inr (.inr (.inr (.inr rf))))), (r 0, .inr (2, [.ref (ra 0), .ref (rb 0), .ref (rd 0), .int (nI (ct 0)), .int (nI (pb 0)), .int (nI (bw 0)), .int (nI (rc 0)), .int (nI (to 0)), .int (nI (la 0)), .int (nI (se 0)), .int (nI (th 0))])), (ra 0, zk_a cI 300 (pl 0)), (rb 0, zk_a cI 300 (ln 0)), (rd 0, zk_a cI 300 (ds 0)), (r 1, .inr (2, [.ref (ra 1), .ref (rb 1), .ref (rd 1), .int (nI (ct 1)), .int (nI (pb 1)), .int (nI (bw 1)), .int (nI (rc 1)), .int (nI (to 1)), .int (nI (la 1)), .int (nI (se 1)), .int (nI (th 1))])), (ra 1, zk_a cI 300 (pl 1)), (rb 1, zk_a cI 300 (ln 1)), (rd 1, zk_a cI 300 (ds 1)), (r 2, .inr (2, [.ref (ra 2), .ref (rb 2), .ref (rd 2), .int (nI (ct 2)), .int (nI (pb 2)), .int (nI (bw 2)), .int (nI (rc 2)), .int (nI (to 2)), .int (nI (la 2)), .int (nI (se 2)), .int (nI (th 2))])), (ra 2, zk_a cI 300 (pl 2)), (rb 2, zk_a cI 300 (ln 2)), (rd 2, zk_a cI 300 (ds 2)), (r 3, .inr (2, [.ref (ra 3), .ref (rb 3), .ref (rd 3), .int (nI (ct 3)), .int (nI (pb 3)), .int (nI (bw 3)), .int (nI (rc 3)), .int (nI (to 3)), .int (nI (la 3)), .int (nI (se 3)), .int (nI (th 3))])), (ra 3, zk_a cI 300 (pl 3)), (rb 3, zk_a cI 300 (ln 3)), (rd 3, zk_a cI 300 (ds 3))] (fun (r : Int32) (u : (Nat → Nat) × Nat × Nat × (Nat → Nat)) => match u with | (g2, ah2, sz2, to2) => (nI sz, g, ah, 0) = (r, g2, ah2, sz2) ∧ zr_rows g2 ah2 sz2 sp dp to2 ct pb bw rc pl ln ds) (fun u => match u with | (g2, ah2, sz2, to2) => [(x_, .inr (4, [.ref t, .ref f, .ref k_, .ref q_])), (f, .inr (0, [.ref t, .int (nI sp), .int (nI dp), .ref fa, .ref fb, .int (nI fc), .int (nI le), .int (nI di)])), (fa, zk_a cI 38 fl), (fb, zk_a cI 38 fd), (t, .inr (3, [.ref b, .int (nI ah2), .int (nI sz2)])), (b, zk_a cI 360 g2), (k_, .inr (1, [.ref ka, .ref kb, .ref kd])), (ka, zk_a cI 301 co), (kb, zk_a cI 300 pn), (kd, zk_a cI 300 pd), (q_, .inl (cR, 4, .inr (.inr (.inr (.inr rf))))), (r 0, .inr (2, [.ref (ra 0), .ref (rb 0), .ref (rd 0), .int (nI (ct 0)), .int (nI (pb 0)), .int (nI (bw 0)), .int (nI (rc 0)), .int (nI (to2 0)), .int (nI (la 0)), .int (nI (se 0)), .int (nI (th 0))])), (ra 0, zk_a cI 300 (pl 0)), (rb 0, zk_a cI 300 (ln 0)), (rd 0, zk_a cI 300 (ds 0)), (r 1, .inr (2, [.ref (ra 1), .ref (rb 1), .ref (rd 1), .int (nI (ct 1)), .int (nI (pb 1)), .int (nI (bw 1)), .int (nI (rc 1)), .int (nI (to2 1)), .int (nI (la 1)), .int (nI (se 1)), .int (nI (th 1))])), (ra 1, zk_a cI 300 (pl 1)), (rb 1, zk_a cI 300 (ln 1)), (rd 1, zk_a cI 300 (ds 1)), (r 2, .inr (2, [.ref (ra 2), .ref (rb 2), .ref (rd 2), .int (nI (ct 2)), .int (nI (pb 2)), .int (nI (bw 2)), .int (nI (rc 2)), .int (nI (to2 2)), .int (nI (la 2)), .int (nI (se 2)), .int (nI (th 2))])), (ra 2, zk_a cI 300 (pl 2)), (rb 2, zk_a cI 300 (ln 2)), (rd 2, zk_a cI 300 (ds 2)), (r 3, .inr (2, [.ref (ra 3), .ref (rb 3), .ref (rd 3), .int (nI (ct 3)), .int (nI (pb 3)), .int (nI (bw 3)), .int (nI (rc 3)), .int (nI (to2 3)), .int (nI (la 3)), .int (nI (se 3)), .int (nI (th 3))])), (ra 3, zk_a cI 300 (pl 3)), (rb 3, zk_a cI 300 (ln 3)), (rd 3, zk_a cI 300 (ds 3))]) := by
  refine zk_enterI RX4 cX4_clear 2 (by decide) rfl rfl (Nat.le_of_ble_eq_true rfl) ?_
  intro p e s m args below meth c ls A Q hx hb hml hown hts hP hK hD hN hl hA hS hret
  have hl : lv_has ls 2 [(0, .ref x_)] := hl
  have f12 := hts (.fieldLink RX4 12 "MatchFinders" "text" "LMatchFinders$Text;") (by decide +kernel)
  have f43 := hts (.fieldLink RX4 43 "MatchFinders$Text" "size" "I") (by decide +kernel)
  refine lv_aload_n hx hb dX4_clear_0 rfl (lv_at hl 0 rfl) ?_
  refine va_get (D := D) (ci := 4) (v := .ref t) (C := RX4) (T := TX4) (N := 4) hx hb hts ziX4_clear_4 hown hK hP 0 rfl rfl 0 (by decide) f12 (fun _ h9 => h9) rfl dX4_clear_1 ?_
  refine va_get (D := D) (ci := 3) (v := .int (nI sz)) (C := RX3) (T := TX3) (N := 3) hx hb hts ziX4_clear_3 hown hK hP 4 rfl rfl 2 (by decide) f43 (fun _ h9 => h9) rfl dX4_clear_4 ?_
  refine lv_istore_n (lv' := [(1, .int (nI sz)), (0, .ref x_)]) hx hb dX4_clear_7 rfl hl (by decide) rfl (fun ls hl => ?_)
  refine lv_aload_n hx hb dX4_clear_8 rfl (lv_at hl 1 rfl) ?_
  refine va_get (D := D) (ci := 4) (v := .ref t) (C := RX4) (T := TX4) (N := 4) hx hb hts ziX4_clear_4 hown hK hP 0 rfl rfl 0 (by decide) f12 (fun _ h9 => h9) rfl dX4_clear_9 ?_
  refine lv_iconst (v := (nI 0)) hx hb dX4_clear_12 (by decide +kernel) ?_
  refine va_put (D := D) (ci := 3) (v := .int (nI 0)) (ty := .int) (C := RX3) (T := TX3) (N := 3) hx hb hts ziX4_clear_3 tyX3 tyX3_ok nmX3 hown hK hP (zk_D hD rfl) hS 4 rfl rfl 2 (by decide) f43 (fun _ h9 => h9) rfl (by decide +kernel) rfl rfl (Nat.le_of_ble_eq_true rfl) dX4_clear_13 (fun H locs hP _ hS => ?_)
  have hP : va_P D vwCl [(x_, .inr (4, [.ref t, .ref f, .ref k_, .ref q_])), (f, .inr (0, [.ref t, .int (nI sp), .int (nI dp), .ref fa, .ref fb, .int (nI fc), .int (nI le), .int (nI di)])), (fa, zk_a cI 38 fl), (fb, zk_a cI 38 fd), (t, .inr (3, [.ref b, .int (nI ah), .int (nI 0)])), (b, zk_a cI 360 g), (k_, .inr (1, [.ref ka, .ref kb, .ref kd])), (ka, zk_a cI 301 co), (kb, zk_a cI 300 pn), (kd, zk_a cI 300 pd), (q_, .inl (cR, 4, .inr (.inr (.inr (.inr rf))))), (r 0, .inr (2, [.ref (ra 0), .ref (rb 0), .ref (rd 0), .int (nI (ct 0)), .int (nI (pb 0)), .int (nI (bw 0)), .int (nI (rc 0)), .int (nI (to 0)), .int (nI (la 0)), .int (nI (se 0)), .int (nI (th 0))])), (ra 0, zk_a cI 300 (pl 0)), (rb 0, zk_a cI 300 (ln 0)), (rd 0, zk_a cI 300 (ds 0)), (r 1, .inr (2, [.ref (ra 1), .ref (rb 1), .ref (rd 1), .int (nI (ct 1)), .int (nI (pb 1)), .int (nI (bw 1)), .int (nI (rc 1)), .int (nI (to 1)), .int (nI (la 1)), .int (nI (se 1)), .int (nI (th 1))])), (ra 1, zk_a cI 300 (pl 1)), (rb 1, zk_a cI 300 (ln 1)), (rd 1, zk_a cI 300 (ds 1)), (r 2, .inr (2, [.ref (ra 2), .ref (rb 2), .ref (rd 2), .int (nI (ct 2)), .int (nI (pb 2)), .int (nI (bw 2)), .int (nI (rc 2)), .int (nI (to 2)), .int (nI (la 2)), .int (nI (se 2)), .int (nI (th 2))])), (ra 2, zk_a cI 300 (pl 2)), (rb 2, zk_a cI 300 (ln 2)), (rd 2, zk_a cI 300 (ds 2)), (r 3, .inr (2, [.ref (ra 3), .ref (rb 3), .ref (rd 3), .int (nI (ct 3)), .int (nI (pb 3)), .int (nI (bw 3)), .int (nI (rc 3)), .int (nI (to 3)), .int (nI (la 3)), .int (nI (se 3)), .int (nI (th 3))])), (ra 3, zk_a cI 300 (pl 3)), (rb 3, zk_a cI 300 (ln 3)), (rd 3, zk_a cI 300 (ds 3))] H := hP
  refine lv_aload_n hx hb dX4_clear_16 rfl (lv_at hl 1 rfl) ?_
  refine zk_wrV (As := []) (rest := []) ⟨hx, hb, hml, hown, hts⟩ hN (c_forgetRows l D cI cZ cR x_ q_ t f k_ rf (r 0) (ra 0) (rb 0) (rd 0) (ct 0) (pb 0) (bw 0) (rc 0) (to 0) (la 0) (se 0) (th 0) (r 1) (ra 1) (rb 1) (rd 1) (ct 1) (pb 1) (bw 1) (rc 1) (to 1) (la 1) (se 1) (th 1) (r 2) (ra 2) (rb 2) (rd 2) (ct 2) (pb 2) (bw 2) (rc 2) (to 2) (la 2) (se 2) (th 2) (r 3) (ra 3) (rb 3) (rd 3) (ct 3) (pb 3) (bw 3) (rc 3) (to 3) (la 3) (se 3) (th 3) (h5 0 (by omega)) (h5 1 (by omega)) (h5 2 (by omega)) (h5 3 (by omega))) (cwV 0 hts gX4_clear_X4_forgetRows rfl rfl rfl (by decide +kernel) ⟨Nat.le_of_ble_eq_true rfl, Nat.le_of_ble_eq_true rfl⟩) hK hP (zk_D hD rfl) hS hA [0, 10, 11, 15, 19, 23] rfl (by decide) (fun _ => rfl) rfl rfl rfl rfl hl.1 rfl (Nat.le_of_ble_eq_true rfl) dX4_clear_17 ⟨Nat.zero_le _, Nat.zero_le _⟩ (fun u H locs hu2 hP hS => ?_)
  have hP : va_P D vwCl [(x_, .inr (4, [.ref t, .ref f, .ref k_, .ref q_])), (f, .inr (0, [.ref t, .int (nI sp), .int (nI dp), .ref fa, .ref fb, .int (nI fc), .int (nI le), .int (nI di)])), (fa, zk_a cI 38 fl), (fb, zk_a cI 38 fd), (t, .inr (3, [.ref b, .int (nI ah), .int (nI 0)])), (b, zk_a cI 360 g), (k_, .inr (1, [.ref ka, .ref kb, .ref kd])), (ka, zk_a cI 301 co), (kb, zk_a cI 300 pn), (kd, zk_a cI 300 pd), (q_, .inl (cR, 4, .inr (.inr (.inr (.inr rf))))), (r 0, .inr (2, [.ref (ra 0), .ref (rb 0), .ref (rd 0), .int (nI (ct 0)), .int (nI (pb 0)), .int (nI (bw 0)), .int (nI (rc 0)), .int (nI 0), .int (nI (la 0)), .int (nI (se 0)), .int (nI (th 0))])), (ra 0, zk_a cI 300 (pl 0)), (rb 0, zk_a cI 300 (ln 0)), (rd 0, zk_a cI 300 (ds 0)), (r 1, .inr (2, [.ref (ra 1), .ref (rb 1), .ref (rd 1), .int (nI (ct 1)), .int (nI (pb 1)), .int (nI (bw 1)), .int (nI (rc 1)), .int (nI 0), .int (nI (la 1)), .int (nI (se 1)), .int (nI (th 1))])), (ra 1, zk_a cI 300 (pl 1)), (rb 1, zk_a cI 300 (ln 1)), (rd 1, zk_a cI 300 (ds 1)), (r 2, .inr (2, [.ref (ra 2), .ref (rb 2), .ref (rd 2), .int (nI (ct 2)), .int (nI (pb 2)), .int (nI (bw 2)), .int (nI (rc 2)), .int (nI 0), .int (nI (la 2)), .int (nI (se 2)), .int (nI (th 2))])), (ra 2, zk_a cI 300 (pl 2)), (rb 2, zk_a cI 300 (ln 2)), (rd 2, zk_a cI 300 (ds 2)), (r 3, .inr (2, [.ref (ra 3), .ref (rb 3), .ref (rd 3), .int (nI (ct 3)), .int (nI (pb 3)), .int (nI (bw 3)), .int (nI (rc 3)), .int (nI 0), .int (nI (la 3)), .int (nI (se 3)), .int (nI (th 3))])), (ra 3, zk_a cI 300 (pl 3)), (rb 3, zk_a cI 300 (ln 3)), (rd 3, zk_a cI 300 (ds 3))] H := hP
  refine lv_iload_n hx hb dX4_clear_20 rfl (lv_at hl 0 rfl) ?_
  exact hret _ ls _ _ _ (g, ah, 0, fun _ => 0) dX4_clear_21 ⟨rfl, zr_rows_0⟩ hP hS
def rmX4_dictionary : Room := { frames := 2, cells := 0, slots := 0, locals := 44 }
set_option maxRecDepth 20000 in
theorem ziX4_dictionary_3 : ∀ w ∈ wsX30, w ∈ wsX4_dictionary := by decide +kernel
set_option maxRecDepth 20000 in
theorem ziX4_dictionary_4 : ∀ w ∈ wsX40, w ∈ wsX4_dictionary := by decide +kernel
set_option maxHeartbeats 4000000 in
set_option maxRecDepth 100000 in
/-- dictionary -/
theorem c_dictionary (l : Launch) (D : va_G) (cI cZ cR : ClassId) (x_ : Nat) (q_ : Nat) (t : Nat) (f : Nat) (k_ : Nat) (rf : Nat → Option Nat) (sp : Nat) (dp : Nat) (fa : Nat) (fb : Nat) (b : Nat) (ka : Nat) (kb : Nat) (kd : Nat) (r : Nat → Nat) (ra : Nat → Nat) (rb : Nat → Nat) (rd : Nat → Nat) (fl : Nat → Nat) (fd : Nat → Nat) (fc : Nat) (le : Nat) (di : Nat) (g : Nat → Nat) (ah : Nat) (sz : Nat) (co : Nat → Nat) (pn : Nat → Nat) (pd : Nat → Nat) (ct : Nat → Nat) (pb : Nat → Nat) (bw : Nat → Nat) (rc : Nat → Nat) (to : Nat → Nat) (la : Nat → Nat) (se : Nat → Nat) (th : Nat → Nat) (pl : Nat → Nat → Nat) (ln : Nat → Nat → Nat) (ds : Nat → Nat → Nat) (h0 : ah ≤ 60) (h1 : sz ≤ 300) (h2 : sp ≤ 300) (h3 : dp ≤ 64) (h4 : ∀ j, g j < 256) (h5 : ∀ i, i < 4 → rf i = some (r i)) (h6 : zr_rows g ah sz sp dp to ct pb bw rc pl ln ds) : zk_Wi l yX4_dictionary wsX4_dictionary rmX4_dictionary D (zk_t cI cZ cR) [.ref x_] [(x_, .inr (4, [.ref t, .ref f, .ref k_, .ref q_])), (f, .inr (0, [.ref t, .int (nI sp), .int (nI dp), .ref fa, .ref fb, .int (nI fc), .int (nI le), .int (nI di)])), (fa, zk_a cI 38 fl), (fb, zk_a cI 38 fd), (t, .inr (3, [.ref b, .int (nI ah), .int (nI sz)])), (b, zk_a cI 360 g), (k_, .inr (1, [.ref ka, .ref kb, .ref kd])), (ka, zk_a cI 301 co), (kb, zk_a cI 300 pn), (kd, zk_a cI 300 pd), (q_, .inl (cR, 4, .inr (.inr (.inr (.inr rf))))), (r 0, .inr (2, [.ref (ra 0), .ref (rb 0), .ref (rd 0), .int (nI (ct 0)), .int (nI (pb 0)), .int (nI (bw 0)), .int (nI (rc 0)), .int (nI (to 0)), .int (nI (la 0)), .int (nI (se 0)), .int (nI (th 0))])), (ra 0, zk_a cI 300 (pl 0)), (rb 0, zk_a cI 300 (ln 0)), (rd 0, zk_a cI 300 (ds 0)), (r 1, .inr (2, [.ref (ra 1), .ref (rb 1), .ref (rd 1), .int (nI (ct 1)), .int (nI (pb 1)), .int (nI (bw 1)), .int (nI (rc 1)), .int (nI (to 1)), .int (nI (la 1)), .int (nI (se 1)), .int (nI (th 1))])), (ra 1, zk_a cI 300 (pl 1)), (rb 1, zk_a cI 300 (ln 1)), (rd 1, zk_a cI 300 (ds 1)), (r 2, .inr (2, [.ref (ra 2), .ref (rb 2), .ref (rd 2), .int (nI (ct 2)), .int (nI (pb 2)), .int (nI (bw 2)), .int (nI (rc 2)), .int (nI (to 2)), .int (nI (la 2)), .int (nI (se 2)), .int (nI (th 2))])), (ra 2, zk_a cI 300 (pl 2)), (rb 2, zk_a cI 300 (ln 2)), (rd 2, zk_a cI 300 (ds 2)), (r 3, .inr (2, [.ref (ra 3), .ref (rb 3), .ref (rd 3), .int (nI (ct 3)), .int (nI (pb 3)), .int (nI (bw 3)), .int (nI (rc 3)), .int (nI (to 3)), .int (nI (la 3)), .int (nI (se 3)), .int (nI (th 3))])), (ra 3, zk_a cI 300 (pl 3)), (rb 3, zk_a cI 300 (ln 3)), (rd 3, zk_a cI 300 (ds 3))] (fun (r : Int32) (u : (Nat → Nat) × Nat × Nat × (Nat → Nat)) => match u with | (g2, ah2, sz2, to2) => (nI (min 60 sz), zr_cp g (ah + sz - min 60 sz) (min 60 sz), min 60 sz, 0) = (r, g2, ah2, sz2) ∧ zr_rows g2 ah2 sz2 sp dp to2 ct pb bw rc pl ln ds) (fun u => match u with | (g2, ah2, sz2, to2) => [(x_, .inr (4, [.ref t, .ref f, .ref k_, .ref q_])), (f, .inr (0, [.ref t, .int (nI sp), .int (nI dp), .ref fa, .ref fb, .int (nI fc), .int (nI le), .int (nI di)])), (fa, zk_a cI 38 fl), (fb, zk_a cI 38 fd), (t, .inr (3, [.ref b, .int (nI ah2), .int (nI sz2)])), (b, zk_a cI 360 g2), (k_, .inr (1, [.ref ka, .ref kb, .ref kd])), (ka, zk_a cI 301 co), (kb, zk_a cI 300 pn), (kd, zk_a cI 300 pd), (q_, .inl (cR, 4, .inr (.inr (.inr (.inr rf))))), (r 0, .inr (2, [.ref (ra 0), .ref (rb 0), .ref (rd 0), .int (nI (ct 0)), .int (nI (pb 0)), .int (nI (bw 0)), .int (nI (rc 0)), .int (nI (to2 0)), .int (nI (la 0)), .int (nI (se 0)), .int (nI (th 0))])), (ra 0, zk_a cI 300 (pl 0)), (rb 0, zk_a cI 300 (ln 0)), (rd 0, zk_a cI 300 (ds 0)), (r 1, .inr (2, [.ref (ra 1), .ref (rb 1), .ref (rd 1), .int (nI (ct 1)), .int (nI (pb 1)), .int (nI (bw 1)), .int (nI (rc 1)), .int (nI (to2 1)), .int (nI (la 1)), .int (nI (se 1)), .int (nI (th 1))])), (ra 1, zk_a cI 300 (pl 1)), (rb 1, zk_a cI 300 (ln 1)), (rd 1, zk_a cI 300 (ds 1)), (r 2, .inr (2, [.ref (ra 2), .ref (rb 2), .ref (rd 2), .int (nI (ct 2)), .int (nI (pb 2)), .int (nI (bw 2)), .int (nI (rc 2)), .int (nI (to2 2)), .int (nI (la 2)), .int (nI (se 2)), .int (nI (th 2))])), (ra 2, zk_a cI 300 (pl 2)), (rb 2, zk_a cI 300 (ln 2)), (rd 2, zk_a cI 300 (ds 2)), (r 3, .inr (2, [.ref (ra 3), .ref (rb 3), .ref (rd 3), .int (nI (ct 3)), .int (nI (pb 3)), .int (nI (bw 3)), .int (nI (rc 3)), .int (nI (to2 3)), .int (nI (la 3)), .int (nI (se 3)), .int (nI (th 3))])), (ra 3, zk_a cI 300 (pl 3)), (rb 3, zk_a cI 300 (ln 3)), (rd 3, zk_a cI 300 (ds 3))]) := by
  refine zk_enterI RX4 cX4_dictionary 1 (by decide) rfl rfl (Nat.le_of_ble_eq_true rfl) ?_
  intro p e s m args below meth c ls A Q hx hb hml hown hts hP hK hD hN hl hA hS hret
  have hl : lv_has ls 1 [(0, .ref x_)] := hl
  have f12 := hts (.fieldLink RX4 12 "MatchFinders" "text" "LMatchFinders$Text;") (by decide +kernel)
  have f62 := hts (.fieldLink RX4 62 "MatchFinders$Text" "ahead" "I") (by decide +kernel)
  refine lv_aload_n hx hb dX4_dictionary_0 rfl (lv_at hl 0 rfl) ?_
  refine va_get (D := D) (ci := 4) (v := .ref t) (C := RX4) (T := TX4) (N := 4) hx hb hts ziX4_dictionary_4 hown hK hP 0 rfl rfl 0 (by decide) f12 (fun _ h9 => h9) rfl dX4_dictionary_1 ?_
  refine zk_wrV (As := []) (rest := []) ⟨hx, hb, hml, hown, hts⟩ hN (c_becomeDictionary l D cI cZ cR t b ah sz g (by omega) (by omega)) (cwV 0 hts gX4_dictionary_X3_becomeDictionary rfl rfl rfl (by decide +kernel) ⟨Nat.le_of_ble_eq_true rfl, Nat.le_of_ble_eq_true rfl⟩) hK hP (zk_D hD rfl) hS hA [4, 5] rfl (by decide) (fun _ => rfl) rfl rfl rfl rfl hl.1 rfl (Nat.le_of_ble_eq_true rfl) dX4_dictionary_4 ⟨Nat.zero_le _, Nat.zero_le _⟩ (fun u H locs hu1 hP hS => ?_)
  have hP : va_P D vwCl [(x_, .inr (4, [.ref t, .ref f, .ref k_, .ref q_])), (f, .inr (0, [.ref t, .int (nI sp), .int (nI dp), .ref fa, .ref fb, .int (nI fc), .int (nI le), .int (nI di)])), (fa, zk_a cI 38 fl), (fb, zk_a cI 38 fd), (t, .inr (3, [.ref b, .int (nI (min 60 sz)), .int (nI 0)])), (b, zk_a cI 360 (zr_cp g (ah + sz - min 60 sz) (min 60 sz))), (k_, .inr (1, [.ref ka, .ref kb, .ref kd])), (ka, zk_a cI 301 co), (kb, zk_a cI 300 pn), (kd, zk_a cI 300 pd), (q_, .inl (cR, 4, .inr (.inr (.inr (.inr rf))))), (r 0, .inr (2, [.ref (ra 0), .ref (rb 0), .ref (rd 0), .int (nI (ct 0)), .int (nI (pb 0)), .int (nI (bw 0)), .int (nI (rc 0)), .int (nI (to 0)), .int (nI (la 0)), .int (nI (se 0)), .int (nI (th 0))])), (ra 0, zk_a cI 300 (pl 0)), (rb 0, zk_a cI 300 (ln 0)), (rd 0, zk_a cI 300 (ds 0)), (r 1, .inr (2, [.ref (ra 1), .ref (rb 1), .ref (rd 1), .int (nI (ct 1)), .int (nI (pb 1)), .int (nI (bw 1)), .int (nI (rc 1)), .int (nI (to 1)), .int (nI (la 1)), .int (nI (se 1)), .int (nI (th 1))])), (ra 1, zk_a cI 300 (pl 1)), (rb 1, zk_a cI 300 (ln 1)), (rd 1, zk_a cI 300 (ds 1)), (r 2, .inr (2, [.ref (ra 2), .ref (rb 2), .ref (rd 2), .int (nI (ct 2)), .int (nI (pb 2)), .int (nI (bw 2)), .int (nI (rc 2)), .int (nI (to 2)), .int (nI (la 2)), .int (nI (se 2)), .int (nI (th 2))])), (ra 2, zk_a cI 300 (pl 2)), (rb 2, zk_a cI 300 (ln 2)), (rd 2, zk_a cI 300 (ds 2)), (r 3, .inr (2, [.ref (ra 3), .ref (rb 3), .ref (rd 3), .int (nI (ct 3)), .int (nI (pb 3)), .int (nI (bw 3)), .int (nI (rc 3)), .int (nI (to 3)), .int (nI (la 3)), .int (nI (se 3)), .int (nI (th 3))])), (ra 3, zk_a cI 300 (pl 3)), (rb 3, zk_a cI 300 (ln 3)), (rd 3, zk_a cI 300 (ds 3))] H := hP
  refine lv_aload_n hx hb dX4_dictionary_7 rfl (lv_at hl 0 rfl) ?_
  refine zk_wrV (As := []) (rest := []) ⟨hx, hb, hml, hown, hts⟩ hN (c_forgetRows l D cI cZ cR x_ q_ t f k_ rf (r 0) (ra 0) (rb 0) (rd 0) (ct 0) (pb 0) (bw 0) (rc 0) (to 0) (la 0) (se 0) (th 0) (r 1) (ra 1) (rb 1) (rd 1) (ct 1) (pb 1) (bw 1) (rc 1) (to 1) (la 1) (se 1) (th 1) (r 2) (ra 2) (rb 2) (rd 2) (ct 2) (pb 2) (bw 2) (rc 2) (to 2) (la 2) (se 2) (th 2) (r 3) (ra 3) (rb 3) (rd 3) (ct 3) (pb 3) (bw 3) (rc 3) (to 3) (la 3) (se 3) (th 3) (h5 0 (by omega)) (h5 1 (by omega)) (h5 2 (by omega)) (h5 3 (by omega))) (cwV 0 hts gX4_dictionary_X4_forgetRows rfl rfl rfl (by decide +kernel) ⟨Nat.le_of_ble_eq_true rfl, Nat.le_of_ble_eq_true rfl⟩) hK hP (zk_D hD rfl) hS hA [0, 10, 11, 15, 19, 23] rfl (by decide) (fun _ => rfl) rfl rfl rfl rfl hl.1 rfl (Nat.le_of_ble_eq_true rfl) dX4_dictionary_8 ⟨Nat.zero_le _, Nat.zero_le _⟩ (fun u H locs hu2 hP hS => ?_)
  have hP : va_P D vwCl [(x_, .inr (4, [.ref t, .ref f, .ref k_, .ref q_])), (f, .inr (0, [.ref t, .int (nI sp), .int (nI dp), .ref fa, .ref fb, .int (nI fc), .int (nI le), .int (nI di)])), (fa, zk_a cI 38 fl), (fb, zk_a cI 38 fd), (t, .inr (3, [.ref b, .int (nI (min 60 sz)), .int (nI 0)])), (b, zk_a cI 360 (zr_cp g (ah + sz - min 60 sz) (min 60 sz))), (k_, .inr (1, [.ref ka, .ref kb, .ref kd])), (ka, zk_a cI 301 co), (kb, zk_a cI 300 pn), (kd, zk_a cI 300 pd), (q_, .inl (cR, 4, .inr (.inr (.inr (.inr rf))))), (r 0, .inr (2, [.ref (ra 0), .ref (rb 0), .ref (rd 0), .int (nI (ct 0)), .int (nI (pb 0)), .int (nI (bw 0)), .int (nI (rc 0)), .int (nI 0), .int (nI (la 0)), .int (nI (se 0)), .int (nI (th 0))])), (ra 0, zk_a cI 300 (pl 0)), (rb 0, zk_a cI 300 (ln 0)), (rd 0, zk_a cI 300 (ds 0)), (r 1, .inr (2, [.ref (ra 1), .ref (rb 1), .ref (rd 1), .int (nI (ct 1)), .int (nI (pb 1)), .int (nI (bw 1)), .int (nI (rc 1)), .int (nI 0), .int (nI (la 1)), .int (nI (se 1)), .int (nI (th 1))])), (ra 1, zk_a cI 300 (pl 1)), (rb 1, zk_a cI 300 (ln 1)), (rd 1, zk_a cI 300 (ds 1)), (r 2, .inr (2, [.ref (ra 2), .ref (rb 2), .ref (rd 2), .int (nI (ct 2)), .int (nI (pb 2)), .int (nI (bw 2)), .int (nI (rc 2)), .int (nI 0), .int (nI (la 2)), .int (nI (se 2)), .int (nI (th 2))])), (ra 2, zk_a cI 300 (pl 2)), (rb 2, zk_a cI 300 (ln 2)), (rd 2, zk_a cI 300 (ds 2)), (r 3, .inr (2, [.ref (ra 3), .ref (rb 3), .ref (rd 3), .int (nI (ct 3)), .int (nI (pb 3)), .int (nI (bw 3)), .int (nI (rc 3)), .int (nI 0), .int (nI (la 3)), .int (nI (se 3)), .int (nI (th 3))])), (ra 3, zk_a cI 300 (pl 3)), (rb 3, zk_a cI 300 (ln 3)), (rd 3, zk_a cI 300 (ds 3))] H := hP
  refine lv_aload_n hx hb dX4_dictionary_11 rfl (lv_at hl 0 rfl) ?_
  refine va_get (D := D) (ci := 4) (v := .ref t) (C := RX4) (T := TX4) (N := 4) hx hb hts ziX4_dictionary_4 hown hK hP 0 rfl rfl 0 (by decide) f12 (fun _ h9 => h9) rfl dX4_dictionary_12 ?_
  refine va_get (D := D) (ci := 3) (v := .int (nI (min 60 sz))) (C := RX3) (T := TX3) (N := 3) hx hb hts ziX4_dictionary_3 hown hK hP 4 rfl rfl 1 (by decide) f62 (fun _ h9 => h9) rfl dX4_dictionary_15 ?_
  exact hret _ ls _ _ _ (_, _, _, fun _ => 0) dX4_dictionary_18 ⟨rfl, zr_rows_0⟩ hP hS
def rmX4_size : Room := { frames := 0, cells := 0, slots := 0, locals := 0 }
set_option maxRecDepth 20000 in
theorem ziX4_size_3 : ∀ w ∈ wsX30, w ∈ wsX4_size := by decide +kernel
set_option maxRecDepth 20000 in
theorem ziX4_size_4 : ∀ w ∈ wsX40, w ∈ wsX4_size := by decide +kernel
set_option maxHeartbeats 4000000 in
set_option maxRecDepth 100000 in
/-- size -/
theorem c_size (l : Launch) (D : va_G) (cI cZ cR : ClassId) (x_ : Nat) (q_ : Nat) (f : Nat) (k_ : Nat) (t : Nat) (b : Nat) (ah : Nat) (sz : Nat) (g : Nat → Nat) (w_ : Int32) : zk_Rd l yX4_size wsX4_size rmX4_size D (zk_t cI cZ cR) [.ref x_, .int w_] [(x_, .inr (4, [.ref t, .ref f, .ref k_, .ref q_])), (t, .inr (3, [.ref b, .int (nI ah), .int (nI sz)])), (b, zk_a cI 360 g)] (zA_size w_ ah sz) := by
  refine zk_enterR RX4 cX4_size 2 .int (by decide) rfl rfl (Nat.le_of_ble_eq_true rfl) (Or.inl rfl) ?_
  intro p e s m args below meth c ls Q hx hb hml hown hts hP hK hD hN hl hret
  have hl : lv_has ls 2 [(0, .ref x_), (1, .int w_)] := hl
  have f12 := hts (.fieldLink RX4 12 "MatchFinders" "text" "LMatchFinders$Text;") (by decide +kernel)
  have f43 := hts (.fieldLink RX4 43 "MatchFinders$Text" "size" "I") (by decide +kernel)
  have f62 := hts (.fieldLink RX4 62 "MatchFinders$Text" "ahead" "I") (by decide +kernel)
  refine lv_iload_n hx hb dX4_size_0 rfl (lv_at hl 1 rfl) ?_
  refine lv_if_ne (tgt := 12) hx hb dX4_size_1 (by decide) (fun c_1 => ?_) (fun c_1 => ?_)
  · skip
    refine lv_iload_n hx hb dX4_size_12 rfl (lv_at hl 1 rfl) ?_
    refine lv_iconst (v := (nI 1)) hx hb dX4_size_13 (by decide +kernel) ?_
    refine lv_icmp_ne (tgt := 27) hx hb dX4_size_14 (by decide) (fun c_2 => ?_) (fun c_2 => ?_)
    · skip
      refine lv_bipush (v := (-2)) hx hb dX4_size_27 (by decide +kernel) ?_
      exact hret _ ls _ dX4_size_29 (by rw [zA_size, if_neg c_1, if_neg c_2])
    · skip
      refine lv_aload_n hx hb dX4_size_17 rfl (lv_at hl 0 rfl) ?_
      refine va_get (D := D) (ci := 4) (v := .ref t) (C := RX4) (T := TX4) (N := 4) hx hb hts ziX4_size_4 hown hK hP 0 rfl rfl 0 (by decide) f12 (fun _ h9 => h9) rfl dX4_size_18 ?_
      refine va_get (D := D) (ci := 3) (v := .int (nI ah)) (C := RX3) (T := TX3) (N := 3) hx hb hts ziX4_size_3 hown hK hP 1 rfl rfl 1 (by decide) f62 (fun _ h9 => h9) rfl dX4_size_21 ?_
      refine lv_goto (tgt := 29) hx hb dX4_size_24 (by decide) ?_
      exact hret _ ls _ dX4_size_29 (by rw [zA_size, if_neg c_1, if_pos c_2])
  · skip
    refine lv_aload_n hx hb dX4_size_4 rfl (lv_at hl 0 rfl) ?_
    refine va_get (D := D) (ci := 4) (v := .ref t) (C := RX4) (T := TX4) (N := 4) hx hb hts ziX4_size_4 hown hK hP 0 rfl rfl 0 (by decide) f12 (fun _ h9 => h9) rfl dX4_size_5 ?_
    refine va_get (D := D) (ci := 3) (v := .int (nI sz)) (C := RX3) (T := TX3) (N := 3) hx hb hts ziX4_size_3 hown hK hP 1 rfl rfl 2 (by decide) f43 (fun _ h9 => h9) rfl dX4_size_8 ?_
    exact hret _ ls _ dX4_size_11 (by rw [zA_size, if_pos c_1])
def rmX4_octet : Room := { frames := 1, cells := 0, slots := 0, locals := 21 }
set_option maxRecDepth 20000 in
theorem ziX4_octet_4 : ∀ w ∈ wsX40, w ∈ wsX4_octet := by decide +kernel
set_option maxHeartbeats 4000000 in
set_option maxRecDepth 100000 in
/-- octet -/
theorem c_octet (l : Launch) (D : va_G) (cI cZ cR : ClassId) (x_ : Nat) (q_ : Nat) (f : Nat) (k_ : Nat) (t : Nat) (b : Nat) (ah : Nat) (sz : Nat) (g : Nat → Nat) (i_ : Int32) (h0 : ah ≤ 60) (h1 : sz ≤ 300) : zk_Rd l yX4_octet wsX4_octet rmX4_octet D (zk_t cI cZ cR) [.ref x_, .int i_] [(x_, .inr (4, [.ref t, .ref f, .ref k_, .ref q_])), (t, .inr (3, [.ref b, .int (nI ah), .int (nI sz)])), (b, zk_a cI 360 g)] (zr_at g ah sz i_) := by
  refine zk_enterR RX4 cX4_octet 2 .int (by decide) rfl rfl (Nat.le_of_ble_eq_true rfl) (Or.inl rfl) ?_
  intro p e s m args below meth c ls Q hx hb hml hown hts hP hK hD hN hl hret
  have hl : lv_has ls 2 [(0, .ref x_), (1, .int i_)] := hl
  have f12 := hts (.fieldLink RX4 12 "MatchFinders" "text" "LMatchFinders$Text;") (by decide +kernel)
  refine lv_aload_n hx hb dX4_octet_0 rfl (lv_at hl 0 rfl) ?_
  refine va_get (D := D) (ci := 4) (v := .ref t) (C := RX4) (T := TX4) (N := 4) hx hb hts ziX4_octet_4 hown hK hP 0 rfl rfl 0 (by decide) f12 (fun _ h9 => h9) rfl dX4_octet_1 ?_
  refine lv_iload_n hx hb dX4_octet_4 rfl (lv_at hl 1 rfl) ?_
  refine zk_rdV (As := [.int i_]) (rest := []) ⟨hx, hb, hml, hown, hts⟩ hN (c_at l D cI cZ cR t b ah sz g i_ (by omega) (by omega)) (cwV 1 hts gX4_octet_X3_at rfl rfl rfl (by decide +kernel) ⟨Nat.le_of_ble_eq_true rfl, Nat.le_of_ble_eq_true rfl⟩) hK hP hD [1, 2] rfl (by decide) rfl rfl rfl rfl hl.1 rfl (Nat.le_of_ble_eq_true rfl) dX4_octet_5 ⟨Nat.zero_le _, Nat.zero_le _⟩ ?_
  exact hret _ ls _ dX4_octet_8 rfl
def rmX4_filling : Room := { frames := 1, cells := 0, slots := 0, locals := 21 }
set_option maxRecDepth 20000 in
theorem ziX4_filling_3 : ∀ w ∈ wsX30, w ∈ wsX4_filling := by decide +kernel
set_option maxRecDepth 20000 in
theorem ziX4_filling_4 : ∀ w ∈ wsX40, w ∈ wsX4_filling := by decide +kernel
set_option maxHeartbeats 4000000 in
set_option maxRecDepth 100000 in
/-- filling -/
theorem c_filling (l : Launch) (D : va_G) (cI cZ cR : ClassId) (x_ : Nat) (q_ : Nat) (f : Nat) (k_ : Nat) (t : Nat) (b : Nat) (ah : Nat) (sz : Nat) (g : Nat → Nat) (z_ : Nat) (o_ : Nat) (k2 : Nat) (h0 : ah ≤ 60) (h1 : sz ≤ 300) (h2 : z_ < 65536) (h3 : o_ ≤ 2) (h4 : k2 ≤ 32) (h5 : 1 ≤ k2) : zk_Rd l yX4_filling wsX4_filling rmX4_filling D (zk_t cI cZ cR) [.ref x_, .int (nI z_), .int (nI o_), .int (nI k2)] [(x_, .inr (4, [.ref t, .ref f, .ref k_, .ref q_])), (t, .inr (3, [.ref b, .int (nI ah), .int (nI sz)])), (b, zk_a cI 360 g)] (nI (zr_fb z_ o_ k2 g ah sz)) := by
  refine zk_enterR RX4 cX4_filling 5 .int (by decide) rfl rfl (Nat.le_of_ble_eq_true rfl) (Or.inl rfl) ?_
  intro p e s m args below meth c ls Q hx hb hml hown hts hP hK hD hN hl hret
  have hl : lv_has ls 5 [(0, .ref x_), (1, .int (nI z_)), (2, .int (nI o_)), (3, .int (nI k2))] := hl
  have f12 := hts (.fieldLink RX4 12 "MatchFinders" "text" "LMatchFinders$Text;") (by decide +kernel)
  have f43 := hts (.fieldLink RX4 43 "MatchFinders$Text" "size" "I") (by decide +kernel)
  refine lv_iload_n hx hb dX4_filling_0 rfl (lv_at hl 2 rfl) ?_
  refine zk_if_ne (tgt := 10) hx hb (by omega) dX4_filling_1 (by decide) (fun c_1 => ?_) (fun c_1 => ?_)
  · skip
    refine lv_iload_n hx hb dX4_filling_10 rfl (lv_at hl 2 rfl) ?_
    refine lv_iconst (v := (nI 1)) hx hb dX4_filling_11 (by decide +kernel) ?_
    refine zk_icmp_ne (tgt := 19) hx hb (by omega) (by omega) dX4_filling_12 (by decide) (fun c_2 => ?_) (fun c_2 => ?_)
    · skip
      refine lv_aload_n hx hb dX4_filling_19 rfl (lv_at hl 0 rfl) ?_
      refine va_get (D := D) (ci := 4) (v := .ref t) (C := RX4) (T := TX4) (N := 4) hx hb hts ziX4_filling_4 hown hK hP 0 rfl rfl 0 (by decide) f12 (fun _ h9 => h9) rfl dX4_filling_20 ?_
      refine va_get (D := D) (ci := 3) (v := .int (nI sz)) (C := RX3) (T := TX3) (N := 3) hx hb hts ziX4_filling_3 hown hK hP 1 rfl rfl 2 (by decide) f43 (fun _ h9 => h9) rfl dX4_filling_23 ?_
      refine lv_iload_n hx hb dX4_filling_26 rfl (lv_at hl 3 rfl) ?_
      refine lv_isub hx hb dX4_filling_27 ?_
      refine lv_istore (lv' := [(4, .int ((nI sz) - (nI k2))), (0, .ref x_), (1, .int (nI z_)), (2, .int (nI o_)), (3, .int (nI k2))]) hx hb dX4_filling_28 hl (by decide) rfl (fun ls hl => ?_)
      refine lv_iload_n hx hb dX4_filling_30 rfl (lv_at hl 2 rfl) ?_
      refine lv_bipush (v := (nI 8)) hx hb dX4_filling_31 (by decide +kernel) ?_
      refine zk_rem (v := z_ % 8) hx hb (by omega) (by omega) (by omega) rfl dX4_filling_33 ?_
      refine zk_if_eq (tgt := 54) hx hb (by omega) dX4_filling_34 (by decide) (fun c_3 => ?_) (fun c_3 => ?_)
      · skip
        refine lv_iload_n hx hb dX4_filling_54 rfl (lv_at hl 2 rfl) ?_
        refine lv_iconst (v := (nI 4)) hx hb dX4_filling_55 (by decide +kernel) ?_
        refine zk_rem (v := z_ % 4) hx hb (by omega) (by omega) (by omega) rfl dX4_filling_56 ?_
        exact hret _ ls _ dX4_filling_57 (by rw [zr_fb, if_neg (by omega), if_neg (by omega), if_pos c_3])
      · skip
        refine lv_iload hx hb dX4_filling_37 (lv_at hl 0 rfl) ?_
        refine lv_if_lt (tgt := 54) hx hb dX4_filling_39 (by decide) (fun c_4 => ?_) (fun c_4 => ?_)
        · skip
          have hb9 : ¬ k2 ≤ sz := fun h9 => by rw [pk_sub h9] at c_4; exact nI_pos (by omega) c_4
          refine lv_iload_n hx hb dX4_filling_54 rfl (lv_at hl 2 rfl) ?_
          refine lv_iconst (v := (nI 4)) hx hb dX4_filling_55 (by decide +kernel) ?_
          refine zk_rem (v := z_ % 4) hx hb (by omega) (by omega) (by omega) rfl dX4_filling_56 ?_
          exact hret _ ls _ dX4_filling_57 (by rw [zr_fb, if_neg (by omega), if_neg (by omega), if_neg (by omega), if_neg hb9])
        · skip
          have hb9 : k2 ≤ sz := Nat.le_of_not_lt (fun h9 => c_4 (pk_sneg (by omega) h9))
          rw [pk_sub hb9] at hl
          refine lv_aload_n hx hb dX4_filling_42 rfl (lv_at hl 1 rfl) ?_
          refine va_get (D := D) (ci := 4) (v := .ref t) (C := RX4) (T := TX4) (N := 4) hx hb hts ziX4_filling_4 hown hK hP 0 rfl rfl 0 (by decide) f12 (fun _ h9 => h9) rfl dX4_filling_43 ?_
          refine lv_iload hx hb dX4_filling_46 (lv_at hl 0 rfl) ?_
          refine zk_rdV (As := [.int (nI (sz - k2))]) (rest := []) ⟨hx, hb, hml, hown, hts⟩ hN (c_at l D cI cZ cR t b ah sz g (nI (sz - k2)) (by omega) (by omega)) (cwV 1 hts gX4_filling_X3_at rfl rfl rfl (by decide +kernel) ⟨Nat.le_of_ble_eq_true rfl, Nat.le_of_ble_eq_true rfl⟩) hK hP hD [1, 2] rfl (by decide) rfl rfl rfl rfl hl.1 rfl (Nat.le_of_ble_eq_true rfl) dX4_filling_48 ⟨Nat.zero_le _, Nat.zero_le _⟩ ?_
          refine zk_top (zr_at_nat h1 h0 (by omega)) ?_
          refine lv_goto (tgt := 57) hx hb dX4_filling_51 (by decide) ?_
          exact hret _ ls _ dX4_filling_57 (by rw [zr_fb, if_neg (by omega), if_neg (by omega), if_neg (by omega), if_pos hb9])
    · skip
      refine lv_iload_n hx hb dX4_filling_15 rfl (lv_at hl 1 rfl) ?_
      refine lv_iconst (v := (nI 3)) hx hb dX4_filling_16 (by decide +kernel) ?_
      refine zk_rem (v := z_ % 3) hx hb (by omega) (by omega) (by omega) rfl dX4_filling_17 ?_
      exact hret _ ls _ dX4_filling_18 (by rw [zr_fb, if_neg (by omega), if_pos c_2])
  · skip
    refine lv_iload_n hx hb dX4_filling_4 rfl (lv_at hl 1 rfl) ?_
    refine lv_sipush (v := (nI 256)) hx hb dX4_filling_5 (by decide +kernel) ?_
    refine zk_rem (v := z_ % 256) hx hb (by omega) (by omega) (by omega) rfl dX4_filling_8 ?_
    exact hret _ ls _ dX4_filling_9 (by rw [zr_fb, if_pos c_1])
def rmX4_fill : Room := { frames := 2, cells := 0, slots := 0, locals := 45 }
set_option maxRecDepth 20000 in
theorem ziX4_fill_3 : ∀ w ∈ wsX30, w ∈ wsX4_fill := by decide +kernel
set_option maxRecDepth 20000 in
theorem ziX4_fill_4 : ∀ w ∈ wsX40, w ∈ wsX4_fill := by decide +kernel
set_option maxHeartbeats 4000000 in
set_option maxRecDepth 100000 in
/-- fill -/
theorem c_fill (l : Launch) (D : va_G) (cI cZ cR : ClassId) (x_ : Nat) (q_ : Nat) (t : Nat) (f : Nat) (k_ : Nat) (rf : Nat → Option Nat) (sp : Nat) (dp : Nat) (fa : Nat) (fb : Nat) (b : Nat) (ka : Nat) (kb : Nat) (kd : Nat) (r : Nat → Nat) (ra : Nat → Nat) (rb : Nat → Nat) (rd : Nat → Nat) (fl : Nat → Nat) (fd : Nat → Nat) (fc : Nat) (le : Nat) (di : Nat) (g : Nat → Nat) (ah : Nat) (sz : Nat) (co : Nat → Nat) (pn : Nat → Nat) (pd : Nat → Nat) (ct : Nat → Nat) (pb : Nat → Nat) (bw : Nat → Nat) (rc : Nat → Nat) (to : Nat → Nat) (la : Nat → Nat) (se : Nat → Nat) (th : Nat → Nat) (pl : Nat → Nat → Nat) (ln : Nat → Nat → Nat) (ds : Nat → Nat → Nat) (n_ : Int32) (s_ : Int32) (o_ : Int32) (h0 : ah ≤ 60) (h1 : sz ≤ 300) (h2 : sp ≤ 300) (h3 : dp ≤ 64) (h4 : ∀ j, g j < 256) (h5 : ∀ i, i < 4 → rf i = some (r i)) (h6 : zr_rows g ah sz sp dp to ct pb bw rc pl ln ds) : zk_Wi l yX4_fill wsX4_fill rmX4_fill D (zk_t cI cZ cR) [.ref x_, .int n_, .int s_, .int o_] [(x_, .inr (4, [.ref t, .ref f, .ref k_, .ref q_])), (f, .inr (0, [.ref t, .int (nI sp), .int (nI dp), .ref fa, .ref fb, .int (nI fc), .int (nI le), .int (nI di)])), (fa, zk_a cI 38 fl), (fb, zk_a cI 38 fd), (t, .inr (3, [.ref b, .int (nI ah), .int (nI sz)])), (b, zk_a cI 360 g), (k_, .inr (1, [.ref ka, .ref kb, .ref kd])), (ka, zk_a cI 301 co), (kb, zk_a cI 300 pn), (kd, zk_a cI 300 pd), (q_, .inl (cR, 4, .inr (.inr (.inr (.inr rf))))), (r 0, .inr (2, [.ref (ra 0), .ref (rb 0), .ref (rd 0), .int (nI (ct 0)), .int (nI (pb 0)), .int (nI (bw 0)), .int (nI (rc 0)), .int (nI (to 0)), .int (nI (la 0)), .int (nI (se 0)), .int (nI (th 0))])), (ra 0, zk_a cI 300 (pl 0)), (rb 0, zk_a cI 300 (ln 0)), (rd 0, zk_a cI 300 (ds 0)), (r 1, .inr (2, [.ref (ra 1), .ref (rb 1), .ref (rd 1), .int (nI (ct 1)), .int (nI (pb 1)), .int (nI (bw 1)), .int (nI (rc 1)), .int (nI (to 1)), .int (nI (la 1)), .int (nI (se 1)), .int (nI (th 1))])), (ra 1, zk_a cI 300 (pl 1)), (rb 1, zk_a cI 300 (ln 1)), (rd 1, zk_a cI 300 (ds 1)), (r 2, .inr (2, [.ref (ra 2), .ref (rb 2), .ref (rd 2), .int (nI (ct 2)), .int (nI (pb 2)), .int (nI (bw 2)), .int (nI (rc 2)), .int (nI (to 2)), .int (nI (la 2)), .int (nI (se 2)), .int (nI (th 2))])), (ra 2, zk_a cI 300 (pl 2)), (rb 2, zk_a cI 300 (ln 2)), (rd 2, zk_a cI 300 (ds 2)), (r 3, .inr (2, [.ref (ra 3), .ref (rb 3), .ref (rd 3), .int (nI (ct 3)), .int (nI (pb 3)), .int (nI (bw 3)), .int (nI (rc 3)), .int (nI (to 3)), .int (nI (la 3)), .int (nI (se 3)), .int (nI (th 3))])), (ra 3, zk_a cI 300 (pl 3)), (rb 3, zk_a cI 300 (ln 3)), (rd 3, zk_a cI 300 (ds 3))] (fun (r : Int32) (u : (Nat → Nat) × Nat × Nat × (Nat → Nat)) => match u with | (g2, ah2, sz2, to2) => zT_fill n_ s_ o_ g ah sz = (r, g2, ah2, sz2) ∧ zr_rows g2 ah2 sz2 sp dp to2 ct pb bw rc pl ln ds) (fun u => match u with | (g2, ah2, sz2, to2) => [(x_, .inr (4, [.ref t, .ref f, .ref k_, .ref q_])), (f, .inr (0, [.ref t, .int (nI sp), .int (nI dp), .ref fa, .ref fb, .int (nI fc), .int (nI le), .int (nI di)])), (fa, zk_a cI 38 fl), (fb, zk_a cI 38 fd), (t, .inr (3, [.ref b, .int (nI ah2), .int (nI sz2)])), (b, zk_a cI 360 g2), (k_, .inr (1, [.ref ka, .ref kb, .ref kd])), (ka, zk_a cI 301 co), (kb, zk_a cI 300 pn), (kd, zk_a cI 300 pd), (q_, .inl (cR, 4, .inr (.inr (.inr (.inr rf))))), (r 0, .inr (2, [.ref (ra 0), .ref (rb 0), .ref (rd 0), .int (nI (ct 0)), .int (nI (pb 0)), .int (nI (bw 0)), .int (nI (rc 0)), .int (nI (to2 0)), .int (nI (la 0)), .int (nI (se 0)), .int (nI (th 0))])), (ra 0, zk_a cI 300 (pl 0)), (rb 0, zk_a cI 300 (ln 0)), (rd 0, zk_a cI 300 (ds 0)), (r 1, .inr (2, [.ref (ra 1), .ref (rb 1), .ref (rd 1), .int (nI (ct 1)), .int (nI (pb 1)), .int (nI (bw 1)), .int (nI (rc 1)), .int (nI (to2 1)), .int (nI (la 1)), .int (nI (se 1)), .int (nI (th 1))])), (ra 1, zk_a cI 300 (pl 1)), (rb 1, zk_a cI 300 (ln 1)), (rd 1, zk_a cI 300 (ds 1)), (r 2, .inr (2, [.ref (ra 2), .ref (rb 2), .ref (rd 2), .int (nI (ct 2)), .int (nI (pb 2)), .int (nI (bw 2)), .int (nI (rc 2)), .int (nI (to2 2)), .int (nI (la 2)), .int (nI (se 2)), .int (nI (th 2))])), (ra 2, zk_a cI 300 (pl 2)), (rb 2, zk_a cI 300 (ln 2)), (rd 2, zk_a cI 300 (ds 2)), (r 3, .inr (2, [.ref (ra 3), .ref (rb 3), .ref (rd 3), .int (nI (ct 3)), .int (nI (pb 3)), .int (nI (bw 3)), .int (nI (rc 3)), .int (nI (to2 3)), .int (nI (la 3)), .int (nI (se 3)), .int (nI (th 3))])), (ra 3, zk_a cI 300 (pl 3)), (rb 3, zk_a cI 300 (ln 3)), (rd 3, zk_a cI 300 (ds 3))]) := by
  refine zk_enterI RX4 cX4_fill 7 (by decide) rfl rfl (Nat.le_of_ble_eq_true rfl) ?_
  intro p e s m args below meth c ls A Q hx hb hml hown hts hP hK hD hN hl hA hS hret
  have hl : lv_has ls 7 [(0, .ref x_), (1, .int n_), (2, .int s_), (3, .int o_)] := hl
  have f12 := hts (.fieldLink RX4 12 "MatchFinders" "text" "LMatchFinders$Text;") (by decide +kernel)
  have f43 := hts (.fieldLink RX4 43 "MatchFinders$Text" "size" "I") (by decide +kernel)
  refine lv_iload_n hx hb dX4_fill_0 rfl (lv_at hl 1 rfl) ?_
  refine lv_iconst (v := (nI 1)) hx hb dX4_fill_1 (by decide +kernel) ?_
  refine lv_icmp_lt (tgt := 21) hx hb dX4_fill_2 (by decide) (fun c_1 => ?_) (fun c_1 => ?_)
  · skip
    refine lv_bipush (v := (-2)) hx hb dX4_fill_21 (by decide +kernel) ?_
    exact hret _ ls _ _ _ (g, ah, sz, to) dX4_fill_23 ⟨by rw [zT_fill, if_pos c_1], h6⟩ hP hS
  · skip
    refine lv_iload_n hx hb dX4_fill_5 rfl (lv_at hl 1 rfl) ?_
    refine lv_sipush (v := (nI 300)) hx hb dX4_fill_6 (by decide +kernel) ?_
    refine lv_icmp_gt (tgt := 21) hx hb dX4_fill_9 (by decide) (fun c_2 => ?_) (fun c_2 => ?_)
    · skip
      refine lv_bipush (v := (-2)) hx hb dX4_fill_21 (by decide +kernel) ?_
      exact hret _ ls _ _ _ (g, ah, sz, to) dX4_fill_23 ⟨by rw [zT_fill, if_neg c_1, if_pos c_2], h6⟩ hP hS
    · skip
      refine lv_iload_n hx hb dX4_fill_12 rfl (lv_at hl 3 rfl) ?_
      refine lv_if_lt (tgt := 21) hx hb dX4_fill_13 (by decide) (fun c_3 => ?_) (fun c_3 => ?_)
      · skip
        refine lv_bipush (v := (-2)) hx hb dX4_fill_21 (by decide +kernel) ?_
        exact hret _ ls _ _ _ (g, ah, sz, to) dX4_fill_23 ⟨by rw [zT_fill, if_neg c_1, if_neg c_2, if_pos c_3], h6⟩ hP hS
      · skip
        refine lv_iload_n hx hb dX4_fill_16 rfl (lv_at hl 3 rfl) ?_
        refine lv_iconst (v := (nI 2)) hx hb dX4_fill_17 (by decide +kernel) ?_
        refine lv_icmp_le (tgt := 24) hx hb dX4_fill_18 (by decide) (fun c_4 => ?_) (fun c_4 => ?_)
        · skip
          obtain ⟨oo, ho, hoe⟩ := zk_wof (n := 2) (by decide) c_3 c_4
          subst hoe
          obtain ⟨nn, hn1, hn2, hne⟩ := zk_fn c_1 c_2
          subst hne
          refine lv_iload_n hx hb dX4_fill_24 rfl (lv_at hl 1 rfl) ?_
          refine lv_sipush (v := (nI 300)) hx hb dX4_fill_25 (by decide +kernel) ?_
          refine lv_aload_n hx hb dX4_fill_28 rfl (lv_at hl 0 rfl) ?_
          refine va_get (D := D) (ci := 4) (v := .ref t) (C := RX4) (T := TX4) (N := 4) hx hb hts ziX4_fill_4 hown hK hP 0 rfl rfl 0 (by decide) f12 (fun _ h9 => h9) rfl dX4_fill_29 ?_
          refine va_get (D := D) (ci := 3) (v := .int (nI sz)) (C := RX3) (T := TX3) (N := 3) hx hb hts ziX4_fill_3 hown hK hP 4 rfl rfl 2 (by decide) f43 (fun _ h9 => h9) rfl dX4_fill_32 ?_
          refine zk_sub (v := 300 - sz) hx hb (by omega) dX4_fill_35 ?_
          refine zk_icmp_le (tgt := 42) hx hb (by omega) (by omega) dX4_fill_36 (by decide) (fun c_5 => ?_) (fun c_5 => ?_)
          · skip
            refine lv_iconst (v := (nI 1)) hx hb dX4_fill_42 (by decide +kernel) ?_
            refine lv_iload_n hx hb dX4_fill_43 rfl (lv_at hl 2 rfl) ?_
            refine lv_bipush (v := (nI 27)) hx hb dX4_fill_44 (by decide +kernel) ?_
            refine lv_iushr hx hb dX4_fill_46 (zr_ush27 s_) ?_
            have hbk := zr_bk_lt s_
            refine zk_add (v := 1 + (s_.toBitVec.toNat / 134217728)) hx hb (rfl) dX4_fill_47 ?_
            refine zk_nm (fun bk h_bk => ?_)
            refine lv_istore (lv' := [(4, .int (nI bk)), (0, .ref x_), (1, .int (nI nn)), (2, .int s_), (3, .int (nI oo))]) hx hb dX4_fill_48 hl (by decide) rfl (fun ls hl => ?_)
            refine lv_iload_n hx hb dX4_fill_50 rfl (lv_at hl 3 rfl) ?_
            refine lv_istore (lv' := [(5, .int s_), (4, .int (nI bk)), (0, .ref x_), (1, .int (nI nn)), (2, .int s_), (3, .int (nI oo))]) hx hb dX4_fill_51 hl (by decide) rfl (fun ls hl => ?_)
            refine lv_iconst (v := (nI 0)) hx hb dX4_fill_53 (by decide +kernel) ?_
            refine lv_istore (lv' := [(6, .int (nI 0)), (5, .int s_), (4, .int (nI bk)), (0, .ref x_), (1, .int (nI nn)), (2, .int s_), (3, .int (nI oo))]) hx hb dX4_fill_54 hl (by decide) rfl (fun ls hl => ?_)
            have hP : va_P D vwCl [(x_, .inr (4, [.ref t, .ref f, .ref k_, .ref q_])), (f, .inr (0, [.ref t, .int (nI sp), .int (nI dp), .ref fa, .ref fb, .int (nI fc), .int (nI le), .int (nI di)])), (fa, zk_a cI 38 fl), (fb, zk_a cI 38 fd), (t, .inr (3, [.ref b, .int (nI ah), .int (nI (sz + 0))])), (b, zk_a cI 360 g), (k_, .inr (1, [.ref ka, .ref kb, .ref kd])), (ka, zk_a cI 301 co), (kb, zk_a cI 300 pn), (kd, zk_a cI 300 pd), (q_, .inl (cR, 4, .inr (.inr (.inr (.inr rf))))), (r 0, .inr (2, [.ref (ra 0), .ref (rb 0), .ref (rd 0), .int (nI (ct 0)), .int (nI (pb 0)), .int (nI (bw 0)), .int (nI (rc 0)), .int (nI (to 0)), .int (nI (la 0)), .int (nI (se 0)), .int (nI (th 0))])), (ra 0, zk_a cI 300 (pl 0)), (rb 0, zk_a cI 300 (ln 0)), (rd 0, zk_a cI 300 (ds 0)), (r 1, .inr (2, [.ref (ra 1), .ref (rb 1), .ref (rd 1), .int (nI (ct 1)), .int (nI (pb 1)), .int (nI (bw 1)), .int (nI (rc 1)), .int (nI (to 1)), .int (nI (la 1)), .int (nI (se 1)), .int (nI (th 1))])), (ra 1, zk_a cI 300 (pl 1)), (rb 1, zk_a cI 300 (ln 1)), (rd 1, zk_a cI 300 (ds 1)), (r 2, .inr (2, [.ref (ra 2), .ref (rb 2), .ref (rd 2), .int (nI (ct 2)), .int (nI (pb 2)), .int (nI (bw 2)), .int (nI (rc 2)), .int (nI (to 2)), .int (nI (la 2)), .int (nI (se 2)), .int (nI (th 2))])), (ra 2, zk_a cI 300 (pl 2)), (rb 2, zk_a cI 300 (ln 2)), (rd 2, zk_a cI 300 (ds 2)), (r 3, .inr (2, [.ref (ra 3), .ref (rb 3), .ref (rd 3), .int (nI (ct 3)), .int (nI (pb 3)), .int (nI (bw 3)), .int (nI (rc 3)), .int (nI (to 3)), .int (nI (la 3)), .int (nI (se 3)), .int (nI (th 3))])), (ra 3, zk_a cI 300 (pl 3)), (rb 3, zk_a cI 300 (ln 3)), (rd 3, zk_a cI 300 (ds 3))] s.heap := hP
            have L56 : ∀ (n : Nat) (i : Nat) (xx : Int32) (g1 : Nat → Nat) (ls : Array Slot) (H : Heap) (locs : List Loc), (i ≤ nn) → (zr_fl oo bk ah (nn - i) xx g1 (sz + i) = (zr_fl oo bk ah nn s_ g sz)) → (∀ j, g1 j < 256) → (nn - i) < n → va_P D vwCl [(x_, .inr (4, [.ref t, .ref f, .ref k_, .ref q_])), (f, .inr (0, [.ref t, .int (nI sp), .int (nI dp), .ref fa, .ref fb, .int (nI fc), .int (nI le), .int (nI di)])), (fa, zk_a cI 38 fl), (fb, zk_a cI 38 fd), (t, .inr (3, [.ref b, .int (nI ah), .int (nI (sz + i))])), (b, zk_a cI 360 g1), (k_, .inr (1, [.ref ka, .ref kb, .ref kd])), (ka, zk_a cI 301 co), (kb, zk_a cI 300 pn), (kd, zk_a cI 300 pd), (q_, .inl (cR, 4, .inr (.inr (.inr (.inr rf))))), (r 0, .inr (2, [.ref (ra 0), .ref (rb 0), .ref (rd 0), .int (nI (ct 0)), .int (nI (pb 0)), .int (nI (bw 0)), .int (nI (rc 0)), .int (nI (to 0)), .int (nI (la 0)), .int (nI (se 0)), .int (nI (th 0))])), (ra 0, zk_a cI 300 (pl 0)), (rb 0, zk_a cI 300 (ln 0)), (rd 0, zk_a cI 300 (ds 0)), (r 1, .inr (2, [.ref (ra 1), .ref (rb 1), .ref (rd 1), .int (nI (ct 1)), .int (nI (pb 1)), .int (nI (bw 1)), .int (nI (rc 1)), .int (nI (to 1)), .int (nI (la 1)), .int (nI (se 1)), .int (nI (th 1))])), (ra 1, zk_a cI 300 (pl 1)), (rb 1, zk_a cI 300 (ln 1)), (rd 1, zk_a cI 300 (ds 1)), (r 2, .inr (2, [.ref (ra 2), .ref (rb 2), .ref (rd 2), .int (nI (ct 2)), .int (nI (pb 2)), .int (nI (bw 2)), .int (nI (rc 2)), .int (nI (to 2)), .int (nI (la 2)), .int (nI (se 2)), .int (nI (th 2))])), (ra 2, zk_a cI 300 (pl 2)), (rb 2, zk_a cI 300 (ln 2)), (rd 2, zk_a cI 300 (ds 2)), (r 3, .inr (2, [.ref (ra 3), .ref (rb 3), .ref (rd 3), .int (nI (ct 3)), .int (nI (pb 3)), .int (nI (bw 3)), .int (nI (rc 3)), .int (nI (to 3)), .int (nI (la 3)), .int (nI (se 3)), .int (nI (th 3))])), (ra 3, zk_a cI 300 (pl 3)), (rb 3, zk_a cI 300 (ln 3)), (rd 3, zk_a cI 300 (ds 3))] H → va_S A s.heap H locs → lv_has ls 7 [(0, .ref x_), (1, .int (nI nn)), (2, .int s_), (3, .int (nI oo)), (4, .int (nI bk)), (5, .int xx), (6, .int (nI i))] → W p l e rmX4_fill s m args below meth c H locs 0 0 Q (F0 m 56 ls []) := by
              intro n
              induction n with
              | zero => intro i xx g1 ls H locs g56_0 g56_1 g56_2 hm hP hS hl; exact absurd hm (by omega)
              | succ n ih56 =>
                intro i xx g1 ls H locs g56_0 g56_1 g56_2 hm hP hS hl
                refine lv_iload hx hb dX4_fill_56 (lv_at hl 6 rfl) ?_
                refine lv_iload_n hx hb dX4_fill_58 rfl (lv_at hl 1 rfl) ?_
                refine zk_icmp_ge (tgt := 98) hx hb (by omega) (by omega) dX4_fill_59 (by decide) (fun c_6 => ?_) (fun c_6 => ?_)
                · skip
                  refine lv_aload_n hx hb dX4_fill_98 rfl (lv_at hl 0 rfl) ?_
                  refine zk_wrV (As := []) (rest := []) ⟨hx, hb, hml, hown, hts⟩ hN (c_forgetRows l D cI cZ cR x_ q_ t f k_ rf (r 0) (ra 0) (rb 0) (rd 0) (ct 0) (pb 0) (bw 0) (rc 0) (to 0) (la 0) (se 0) (th 0) (r 1) (ra 1) (rb 1) (rd 1) (ct 1) (pb 1) (bw 1) (rc 1) (to 1) (la 1) (se 1) (th 1) (r 2) (ra 2) (rb 2) (rd 2) (ct 2) (pb 2) (bw 2) (rc 2) (to 2) (la 2) (se 2) (th 2) (r 3) (ra 3) (rb 3) (rd 3) (ct 3) (pb 3) (bw 3) (rc 3) (to 3) (la 3) (se 3) (th 3) (h5 0 (by omega)) (h5 1 (by omega)) (h5 2 (by omega)) (h5 3 (by omega))) (cwV 0 hts gX4_fill_X4_forgetRows rfl rfl rfl (by decide +kernel) ⟨Nat.le_of_ble_eq_true rfl, Nat.le_of_ble_eq_true rfl⟩) hK hP (zk_D hD rfl) hS hA [0, 10, 11, 15, 19, 23] rfl (by decide) (fun _ => rfl) rfl rfl rfl rfl hl.1 rfl (Nat.le_of_ble_eq_true rfl) dX4_fill_99 ⟨Nat.zero_le _, Nat.zero_le _⟩ (fun u H locs hu2 hP hS => ?_)
                  have hP : va_P D vwCl [(x_, .inr (4, [.ref t, .ref f, .ref k_, .ref q_])), (f, .inr (0, [.ref t, .int (nI sp), .int (nI dp), .ref fa, .ref fb, .int (nI fc), .int (nI le), .int (nI di)])), (fa, zk_a cI 38 fl), (fb, zk_a cI 38 fd), (t, .inr (3, [.ref b, .int (nI ah), .int (nI (sz + i))])), (b, zk_a cI 360 g1), (k_, .inr (1, [.ref ka, .ref kb, .ref kd])), (ka, zk_a cI 301 co), (kb, zk_a cI 300 pn), (kd, zk_a cI 300 pd), (q_, .inl (cR, 4, .inr (.inr (.inr (.inr rf))))), (r 0, .inr (2, [.ref (ra 0), .ref (rb 0), .ref (rd 0), .int (nI (ct 0)), .int (nI (pb 0)), .int (nI (bw 0)), .int (nI (rc 0)), .int (nI 0), .int (nI (la 0)), .int (nI (se 0)), .int (nI (th 0))])), (ra 0, zk_a cI 300 (pl 0)), (rb 0, zk_a cI 300 (ln 0)), (rd 0, zk_a cI 300 (ds 0)), (r 1, .inr (2, [.ref (ra 1), .ref (rb 1), .ref (rd 1), .int (nI (ct 1)), .int (nI (pb 1)), .int (nI (bw 1)), .int (nI (rc 1)), .int (nI 0), .int (nI (la 1)), .int (nI (se 1)), .int (nI (th 1))])), (ra 1, zk_a cI 300 (pl 1)), (rb 1, zk_a cI 300 (ln 1)), (rd 1, zk_a cI 300 (ds 1)), (r 2, .inr (2, [.ref (ra 2), .ref (rb 2), .ref (rd 2), .int (nI (ct 2)), .int (nI (pb 2)), .int (nI (bw 2)), .int (nI (rc 2)), .int (nI 0), .int (nI (la 2)), .int (nI (se 2)), .int (nI (th 2))])), (ra 2, zk_a cI 300 (pl 2)), (rb 2, zk_a cI 300 (ln 2)), (rd 2, zk_a cI 300 (ds 2)), (r 3, .inr (2, [.ref (ra 3), .ref (rb 3), .ref (rd 3), .int (nI (ct 3)), .int (nI (pb 3)), .int (nI (bw 3)), .int (nI (rc 3)), .int (nI 0), .int (nI (la 3)), .int (nI (se 3)), .int (nI (th 3))])), (ra 3, zk_a cI 300 (pl 3)), (rb 3, zk_a cI 300 (ln 3)), (rd 3, zk_a cI 300 (ds 3))] H := hP
                  refine lv_aload_n hx hb dX4_fill_102 rfl (lv_at hl 0 rfl) ?_
                  refine va_get (D := D) (ci := 4) (v := .ref t) (C := RX4) (T := TX4) (N := 4) hx hb hts ziX4_fill_4 hown hK hP 0 rfl rfl 0 (by decide) f12 (fun _ h9 => h9) rfl dX4_fill_103 ?_
                  refine va_get (D := D) (ci := 3) (v := .int (nI (sz + i))) (C := RX3) (T := TX3) (N := 3) hx hb hts ziX4_fill_3 hown hK hP 4 rfl rfl 2 (by decide) f43 (fun _ h9 => h9) rfl dX4_fill_106 ?_
                  exact hret _ ls _ _ _ (g1, ah, sz + i, fun _ => 0) dX4_fill_109 ⟨by rw [zT_fill, if_neg (zk_nlt1 hn1 hn2), if_neg (nI_nlt hn2 (by decide)), zk_win ho (by decide), nI_clamp (show nn < 2 ^ 31 by omega), if_pos (by omega), nI_clamp (show oo < 2 ^ 31 by omega), ← h_bk, ← g56_1, show nn - i = 0 by omega, show i = nn by omega]; rfl, zr_rows_0⟩ hP hS
                · skip
                  refine lv_iload hx hb dX4_fill_62 (lv_at hl 5 rfl) ?_
                  refine lv_ldc hx hb hown (hts (.constant RX4 54 (1103515245)) (by decide +kernel)) dX4_fill_64 ?_
                  refine lv_imul hx hb dX4_fill_66 ?_
                  refine lv_sipush (v := (nI 12345)) hx hb dX4_fill_67 (by decide +kernel) ?_
                  refine lv_iadd hx hb dX4_fill_70 ?_
                  refine zk_top (v := zr_nx xx) rfl ?_
                  refine lv_istore (lv' := [(5, .int (zr_nx xx)), (0, .ref x_), (1, .int (nI nn)), (2, .int s_), (3, .int (nI oo)), (4, .int (nI bk)), (6, .int (nI i))]) hx hb dX4_fill_71 hl (by decide) rfl (fun ls hl => ?_)
                  refine lv_aload_n hx hb dX4_fill_73 rfl (lv_at hl 1 rfl) ?_
                  refine va_get (D := D) (ci := 4) (v := .ref t) (C := RX4) (T := TX4) (N := 4) hx hb hts ziX4_fill_4 hown hK hP 0 rfl rfl 0 (by decide) f12 (fun _ h9 => h9) rfl dX4_fill_74 ?_
                  refine lv_aload_n hx hb dX4_fill_77 rfl (lv_at hl 1 rfl) ?_
                  refine lv_iload hx hb dX4_fill_78 (lv_at hl 0 rfl) ?_
                  refine lv_bipush (v := (nI 16)) hx hb dX4_fill_80 (by decide +kernel) ?_
                  refine lv_iushr hx hb dX4_fill_82 (zr_ush16 (zr_nx xx)) ?_
                  have hz16 := zr_hi_lt (zr_nx xx)
                  refine lv_iload_n hx hb dX4_fill_83 rfl (lv_at hl 4 rfl) ?_
                  refine lv_iload hx hb dX4_fill_84 (lv_at hl 5 rfl) ?_
                  refine zk_rdV (As := [.int (nI (zr_hi (zr_nx xx))), .int (nI oo), .int (nI bk)]) (rest := [.ref t]) ⟨hx, hb, hml, hown, hts⟩ hN (c_filling l D cI cZ cR x_ q_ f k_ t b ah (sz + i) g1 (zr_hi (zr_nx xx)) oo bk (by omega) (by omega) (by omega) (by omega) (by omega) (by omega)) (cwV 3 hts gX4_fill_X4_filling rfl rfl rfl (by decide +kernel) ⟨Nat.le_of_ble_eq_true rfl, Nat.le_of_ble_eq_true rfl⟩) hK hP (zk_D hD rfl) [0, 4, 5] rfl (by decide) rfl rfl rfl rfl hl.1 rfl (Nat.le_of_ble_eq_true rfl) dX4_fill_86 ⟨Nat.zero_le _, Nat.zero_le _⟩ ?_
                  refine zk_wrV (As := [.int (nI (zr_fb (zr_hi (zr_nx xx)) oo bk g1 ah (sz + i)))]) (rest := []) ⟨hx, hb, hml, hown, hts⟩ hN (c_put l D cI cZ cR t b ah (sz + i) g1 (zr_fb (zr_hi (zr_nx xx)) oo bk g1 ah (sz + i)) (by omega) (by omega)) (cwV 1 hts gX4_fill_X3_put rfl rfl rfl (by decide +kernel) ⟨Nat.le_of_ble_eq_true rfl, Nat.le_of_ble_eq_true rfl⟩) hK hP (zk_D hD rfl) hS hA [4, 5] rfl (by decide) (fun _ => rfl) rfl rfl rfl rfl hl.1 rfl (Nat.le_of_ble_eq_true rfl) dX4_fill_89 ⟨Nat.zero_le _, Nat.zero_le _⟩ (fun u H locs hu1 hP hS => ?_)
                  have hP : va_P D vwCl [(x_, .inr (4, [.ref t, .ref f, .ref k_, .ref q_])), (f, .inr (0, [.ref t, .int (nI sp), .int (nI dp), .ref fa, .ref fb, .int (nI fc), .int (nI le), .int (nI di)])), (fa, zk_a cI 38 fl), (fb, zk_a cI 38 fd), (t, .inr (3, [.ref b, .int (nI ah), .int (nI ((sz + i) + 1))])), (b, zk_a cI 360 (zk_up g1 (ah + (sz + i)) (zr_fb (zr_hi (zr_nx xx)) oo bk g1 ah (sz + i)))), (k_, .inr (1, [.ref ka, .ref kb, .ref kd])), (ka, zk_a cI 301 co), (kb, zk_a cI 300 pn), (kd, zk_a cI 300 pd), (q_, .inl (cR, 4, .inr (.inr (.inr (.inr rf))))), (r 0, .inr (2, [.ref (ra 0), .ref (rb 0), .ref (rd 0), .int (nI (ct 0)), .int (nI (pb 0)), .int (nI (bw 0)), .int (nI (rc 0)), .int (nI (to 0)), .int (nI (la 0)), .int (nI (se 0)), .int (nI (th 0))])), (ra 0, zk_a cI 300 (pl 0)), (rb 0, zk_a cI 300 (ln 0)), (rd 0, zk_a cI 300 (ds 0)), (r 1, .inr (2, [.ref (ra 1), .ref (rb 1), .ref (rd 1), .int (nI (ct 1)), .int (nI (pb 1)), .int (nI (bw 1)), .int (nI (rc 1)), .int (nI (to 1)), .int (nI (la 1)), .int (nI (se 1)), .int (nI (th 1))])), (ra 1, zk_a cI 300 (pl 1)), (rb 1, zk_a cI 300 (ln 1)), (rd 1, zk_a cI 300 (ds 1)), (r 2, .inr (2, [.ref (ra 2), .ref (rb 2), .ref (rd 2), .int (nI (ct 2)), .int (nI (pb 2)), .int (nI (bw 2)), .int (nI (rc 2)), .int (nI (to 2)), .int (nI (la 2)), .int (nI (se 2)), .int (nI (th 2))])), (ra 2, zk_a cI 300 (pl 2)), (rb 2, zk_a cI 300 (ln 2)), (rd 2, zk_a cI 300 (ds 2)), (r 3, .inr (2, [.ref (ra 3), .ref (rb 3), .ref (rd 3), .int (nI (ct 3)), .int (nI (pb 3)), .int (nI (bw 3)), .int (nI (rc 3)), .int (nI (to 3)), .int (nI (la 3)), .int (nI (se 3)), .int (nI (th 3))])), (ra 3, zk_a cI 300 (pl 3)), (rb 3, zk_a cI 300 (ln 3)), (rd 3, zk_a cI 300 (ds 3))] H := hP
                  refine lv_iinc (v := (nI (i + 1))) (lv' := [(6, .int (nI (i + 1))), (5, .int (zr_nx xx)), (0, .ref x_), (1, .int (nI nn)), (2, .int s_), (3, .int (nI oo)), (4, .int (nI bk))]) hx hb dX4_fill_92 hl (k := 6) rfl (by rw [show Int32.ofInt 1 = (1 : Int32) from rfl, nI_1]) (by decide) rfl (fun ls hl => ?_)
                  refine lv_goto (tgt := 56) hx hb dX4_fill_95 (by decide) ?_
                  have hP : va_P D vwCl [(x_, .inr (4, [.ref t, .ref f, .ref k_, .ref q_])), (f, .inr (0, [.ref t, .int (nI sp), .int (nI dp), .ref fa, .ref fb, .int (nI fc), .int (nI le), .int (nI di)])), (fa, zk_a cI 38 fl), (fb, zk_a cI 38 fd), (t, .inr (3, [.ref b, .int (nI ah), .int (nI (sz + (i + 1)))])), (b, zk_a cI 360 (zk_up g1 (ah + (sz + i)) (zr_fb (zr_hi (zr_nx xx)) oo bk g1 ah (sz + i)))), (k_, .inr (1, [.ref ka, .ref kb, .ref kd])), (ka, zk_a cI 301 co), (kb, zk_a cI 300 pn), (kd, zk_a cI 300 pd), (q_, .inl (cR, 4, .inr (.inr (.inr (.inr rf))))), (r 0, .inr (2, [.ref (ra 0), .ref (rb 0), .ref (rd 0), .int (nI (ct 0)), .int (nI (pb 0)), .int (nI (bw 0)), .int (nI (rc 0)), .int (nI (to 0)), .int (nI (la 0)), .int (nI (se 0)), .int (nI (th 0))])), (ra 0, zk_a cI 300 (pl 0)), (rb 0, zk_a cI 300 (ln 0)), (rd 0, zk_a cI 300 (ds 0)), (r 1, .inr (2, [.ref (ra 1), .ref (rb 1), .ref (rd 1), .int (nI (ct 1)), .int (nI (pb 1)), .int (nI (bw 1)), .int (nI (rc 1)), .int (nI (to 1)), .int (nI (la 1)), .int (nI (se 1)), .int (nI (th 1))])), (ra 1, zk_a cI 300 (pl 1)), (rb 1, zk_a cI 300 (ln 1)), (rd 1, zk_a cI 300 (ds 1)), (r 2, .inr (2, [.ref (ra 2), .ref (rb 2), .ref (rd 2), .int (nI (ct 2)), .int (nI (pb 2)), .int (nI (bw 2)), .int (nI (rc 2)), .int (nI (to 2)), .int (nI (la 2)), .int (nI (se 2)), .int (nI (th 2))])), (ra 2, zk_a cI 300 (pl 2)), (rb 2, zk_a cI 300 (ln 2)), (rd 2, zk_a cI 300 (ds 2)), (r 3, .inr (2, [.ref (ra 3), .ref (rb 3), .ref (rd 3), .int (nI (ct 3)), .int (nI (pb 3)), .int (nI (bw 3)), .int (nI (rc 3)), .int (nI (to 3)), .int (nI (la 3)), .int (nI (se 3)), .int (nI (th 3))])), (ra 3, zk_a cI 300 (pl 3)), (rb 3, zk_a cI 300 (ln 3)), (rd 3, zk_a cI 300 (ds 3))] H := hP
                  exact ih56 (i + 1) (zr_nx xx) (zk_up g1 (ah + (sz + i)) (zr_fb (zr_hi (zr_nx xx)) oo bk g1 ah (sz + i))) ls _ _ (by omega) (by rw [← g56_1, zr_fl_s (n := nn - i) (m := nn - (i + 1)) (by omega)]; rfl) (zk_up_lt g56_2 (zr_fb_lt g56_2)) (by omega) hP hS (lv_sub hl [2, 3, 4, 5, 6, 1, 0] rfl)
            exact L56 (nn - 0 + 1) 0 s_ g ls _ _ (by omega) rfl h4 (by omega) hP hS (lv_sub hl [3, 4, 5, 6, 2, 1, 0] rfl)
          · skip
            refine lv_bipush (v := (-4)) hx hb dX4_fill_39 (by decide +kernel) ?_
            exact hret _ ls _ _ _ (g, ah, sz, to) dX4_fill_41 ⟨by rw [zT_fill, if_neg (zk_nlt1 hn1 hn2), if_neg (nI_nlt hn2 (by decide)), zk_win ho (by decide), nI_clamp (show nn < 2 ^ 31 by omega), if_neg (by omega)], h6⟩ hP hS
        · skip
          refine lv_bipush (v := (-2)) hx hb dX4_fill_21 (by decide +kernel) ?_
          exact hret _ ls _ _ _ (g, ah, sz, to) dX4_fill_23 ⟨by rw [zT_fill, if_neg c_1, if_neg c_2, if_neg c_3, if_neg c_4], h6⟩ hP hS
