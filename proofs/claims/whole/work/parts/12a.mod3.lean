/-! Rows of the reference, and FRONT there. -/
theorem zk_i34 {w : Int32} (h : w < nI 0 ∨ nI 3 < w) : w < 0 ∨ nI 4 ≤ w := by
  rcases h with h | h
  · rw [nI_0] at h; exact Or.inl h
  · refine Or.inr ?_
    rw [Int32.lt_iff_toInt_lt, nI_toInt (by decide)] at h
    rw [Int32.le_iff_toInt_le, nI_toInt (by decide)]
    omega
theorem zr_ch_03 {Rr : Nat → Nat} {dp : Nat} : ∀ (n d se le di : Nat), le = 0 ∨ 3 ≤ le → (zr_ch Rr dp n d se le di).1 = 0 ∨ 3 ≤ (zr_ch Rr dp n d se le di).1
  | 0, _, _, _, _, h => h
  | n + 1, d, se, le, di, h => by
    unfold zr_ch
    split
    · split
      · split
        · rename_i c1 c2 c3
          exact zr_ch_03 n (d + 1) (se + 1) _ _ (Or.inr c2)
        · exact zr_ch_03 n (d + 1) (se + 1) _ _ h
      · exact zr_ch_03 n (d + 1) se _ _ h
    · exact h
theorem zr_ch_03' {Rr : Nat → Nat} {dp n d se a b : Nat} (h : zr_ch Rr dp n d se 0 0 = (a, b)) : a = 0 ∨ 3 ≤ a := by
  have h1 := zr_ch_03 (Rr := Rr) (dp := dp) n d se 0 0 (Or.inl rfl)
  rw [h] at h1
  exact h1
theorem zr_s0_end {g : Nat → Nat} {ah sz sp q : Nat} (h : sz ≤ q) : zr_s0 g ah sz sp q = (0, 0) := by
  by_cases h0 : zr_s0 g ah sz sp q = (0, 0)
  · exact h0
  · have h1 := zr_F_mem (zr_last_mem h0)
    have h2 := h1.2.1
    have h3 := h1.1
    omega
theorem zr_ch_le {g : Nat → Nat} {ah sz q dp n d se a b : Nat} (h : zr_ch (zr_lg g ah sz q) dp n d se 0 0 = (a, b)) (hd : 1 ≤ d) : a ≤ min 40 (sz - q) ∨ a = 0 := by
  by_cases h3 : 3 ≤ a
  · have h1 := zr_ch_b (Rr := zr_lg g ah sz q) (mo := min 40 (sz - q)) (dp := dp) (fun d => zr_lg_le g ah sz q d) n d se 0 0 (d + n) (by omega) (fun h => absurd h (by omega)) hd (by rw [h]; exact h3)
    rw [h] at h1
    exact Or.inl h1.1
  · exact Or.inr (by have h2 := zr_ch_03' h; omega)
theorem zr_sel_0 {w : Nat} {g : Nat → Nat} {ah sz sp dp q : Nat} {pn pd : Nat → Nat} {x : Nat × Nat} (hw : w ≤ 2) (h2 : w ≠ 2) (h1 : w ≠ 1) (hx : zr_s0 g ah sz sp q = x) : zr_sel w g ah sz sp dp pn pd q = x := by
  rw [zr_sel, if_pos (by omega)]; exact hx
theorem zr_sel_1 {w : Nat} {g : Nat → Nat} {ah sz sp dp q : Nat} {pn pd : Nat → Nat} {x : Nat × Nat} (h1 : w = 1) (hx : zr_s1 g ah sz sp dp q = x) : zr_sel w g ah sz sp dp pn pd q = x := by
  rw [zr_sel, if_neg (by omega), if_pos h1]; exact hx
theorem zr_sel_2 {w : Nat} {g : Nat → Nat} {ah sz sp dp q : Nat} {pn pd : Nat → Nat} (h1 : w = 2) : zr_sel w g ah sz sp dp pn pd q = if (zr_s0 g ah sz sp q).1 < (zr_s0 g ah sz sp (q + 1)).1 then (0, 0) else zr_s0 g ah sz sp q := by
  rw [zr_sel, if_neg (by omega), if_neg (by omega), if_pos h1]; rfl
theorem zr_im_le {g : Nat → Nat} {ah sz sp dp : Nat} {im ct P1 P2 P3 : Nat → Nat} (h : zr_mrows g ah sz sp dp im ct P1 P2 P3) {i : Nat} (hi : i < 4) : im i ≤ 1 := by
  rcases h i hi with h1 | h1
  · omega
  · omega
theorem zr_pcs_mem {w : Nat} {g : Nat → Nat} {ah sz sp dp : Nat} {sel : Nat → Nat × Nat} (hw : w ≤ 3) (h : zr_ok w g ah sz sp dp sel) : ∀ (n q : Nat) (x : Nat × Nat × Nat), x ∈ zr_pcs sel sz n q → (x.2.1 = 1 ∧ x.2.2 = 0) ∨ (3 ≤ x.2.1 ∧ x.2.1 ≤ 40 ∧ 1 ≤ x.2.2 ∧ x.2.2 ≤ sp)
  | 0, _, x, hx => by simp [zr_pcs] at hx
  | n + 1, q, x, hx => by
    unfold zr_pcs at hx
    split at hx
    · rename_i c1
      split at hx
      · rename_i c2
        rcases List.mem_cons.mp hx with h1 | h1
        · subst h1
          have h2 := zr_ok_in hw h c1 c2
          exact Or.inr ⟨c2, by show (sel q).1 ≤ 40; have h3 := h2.1; omega, h2.2.1, h2.2.2⟩
        · exact zr_pcs_mem hw h n _ x h1
      · rcases List.mem_cons.mp hx with h1 | h1
        · subst h1; exact Or.inl ⟨rfl, rfl⟩
        · exact zr_pcs_mem hw h n _ x h1
    · simp at hx
theorem zr_take_s {L : List (Nat × Nat × Nat)} {i : Nat} {x : Nat × Nat × Nat} (h : L[i]? = some x) : L.take (i + 1) = L.take i ++ [x] := by
  rw [List.take_add_one, h]
  rfl
theorem zr_fr_lg (g : Nat → Nat) (ah sz q : Nat) : ∀ (n d be : Nat), 1 ≤ d → 2 ≤ be → zr_fr (zr_lg g ah sz q) (min 40 (sz - q)) n d be = zr_fr (fun d => zr_reach g (ah + q) (ah + q - d) (min 40 (sz - q))) (min 40 (sz - q)) (min n (ah + q + 1 - d)) d be
  | 0, d, be, _, _ => by rw [zr_fr_0 rfl, zr_fr_0 (by omega)]
  | n + 1, d, be, h1, h2 => by
    by_cases hbm : be < min 40 (sz - q)
    · by_cases hd : d ≤ ah + q
      · rw [show min (n + 1) (ah + q + 1 - d) = min n (ah + q + 1 - (d + 1)) + 1 by omega]
        rw [zr_fr, zr_fr, if_pos hbm, if_pos hbm, zr_lg_in hd]
        by_cases hr : be < zr_reach g (ah + q) (ah + q - d) (min 40 (sz - q))
        · rw [if_neg (show ¬ zr_reach g (ah + q) (ah + q - d) (min 40 (sz - q)) < 3 by omega), if_pos hr, if_pos hr, zr_fr_lg g ah sz q n (d + 1) _ (by omega) (by omega)]
        · rw [if_neg (show ¬ be < (if zr_reach g (ah + q) (ah + q - d) (min 40 (sz - q)) < 3 then 0 else zr_reach g (ah + q) (ah + q - d) (min 40 (sz - q))) by split <;> omega), if_neg hr]
          exact zr_fr_lg g ah sz q n (d + 1) be (by omega) h2
      · rw [zr_fr_0 (n := min (n + 1) (ah + q + 1 - d)) (by omega), zr_fr, if_pos hbm, zr_lg_out (by omega), if_neg (by omega), zr_fr_lg g ah sz q n (d + 1) be (by omega) h2, zr_fr_0 (by omega)]
    · rw [zr_fr_big (n := n + 1) (by omega), zr_fr_big (by omega)]
theorem zr_fr_Fp {g : Nat → Nat} {ah sz sp q : Nat} : zr_fr (zr_lg g ah sz q) (min 40 (sz - q)) sp 1 2 = zr_Fp g ah sz sp q := by
  rw [zr_fr_lg g ah sz q sp 1 2 (by omega) (by omega), show ah + q + 1 - 1 = ah + q by omega]
  rfl
/-- a push, or none, over lengths that are 0 or 3 at least -/
theorem zr_fr_sk {Rr : Nat → Nat} {mo n k d be r : Nat} (hr : r = Rr d) (h2 : r ≤ be) (hn : n = k + 1) : zr_fr Rr mo n d be = zr_fr Rr mo k (d + 1) be := by
  by_cases h : be < mo
  · exact zr_fr_skip h hr h2 hn
  · rw [zr_fr_big (by omega), zr_fr_big (by omega)]
def zr_an (k w an : Int32) (P : List (Nat × Nat)) : Prop := ∀ j, j < P.length → k = nI j → an = if w = 0 then nI (P.getD j (0, 0)).1 else nI (P.getD j (0, 0)).2
theorem zr_an_0 {k w an : Int32} : zr_an k w an [] := fun j hj => absurd hj (by simp)
theorem zr_an_no {k w an : Int32} {P : List (Nat × Nat)} {x : Nat × Nat} (h : zr_an k w an P) (hk : ¬ nI P.length = k) : zr_an k w an (P ++ [x]) := fun j hj he => by
  rw [List.length_append] at hj
  have hj2 : j < P.length := by
    rcases Nat.lt_or_ge j P.length with h1 | h1
    · exact h1
    · have h2 : j = P.length := by have h3 : [x].length = 1 := rfl; omega
      subst h2
      exact absurd he.symm hk
  rw [h j hj2 he, List.getD_eq_getElem?_getD, List.getD_eq_getElem?_getD, List.getElem?_append_left hj2]
theorem zr_an_up {k w an : Int32} {P : List (Nat × Nat)} {x : Nat × Nat} (hk : nI P.length = k) (hl : P.length ≤ 400) (ha : an = if w = 0 then nI x.1 else nI x.2) : zr_an k w an (P ++ [x]) := fun j hj he => by
  rw [List.length_append] at hj
  have h3 : [x].length = 1 := rfl
  have h2 : j = P.length := ((nI_eq (by omega) (by omega)).mp (hk.trans he)).symm
  subst h2
  rw [List.getD_eq_getElem?_getD, List.getElem?_append_right (Nat.le_refl _), Nat.sub_self]
  exact ha
theorem zr_bw_b {w : Nat} {g : Nat → Nat} {ah sz sp dp : Nat} {sel : Nat → Nat × Nat} (L : List (Nat × Nat × Nat)) (hL : ∀ x, x ∈ L → (x.2.1 = 1 ∧ x.2.2 = 0) ∨ (3 ≤ x.2.1 ∧ x.2.1 ≤ 40 ∧ 1 ≤ x.2.2 ∧ x.2.2 ≤ 300)) : ∀ s : zr_T, (L.foldl zr_st s).2.1 ≤ s.2.1 + 700 * L.length := by
  induction L with
  | nil => intro s; simp
  | cons x L ih =>
    intro s
    have h1 := ih (fun y hy => hL y (List.mem_cons_of_mem _ hy)) (zr_st s x)
    have h2 : (zr_st s x).2.1 ≤ s.2.1 + 700 := by
      have h3 := zr_Gb (x.2.1 - 2)
      have h4 := zr_Gb x.2.2
      have h5 := hL x List.mem_cons_self
      unfold zr_st zr_pc zr_cm
      split
      · show s.2.1 + 9 ≤ _; omega
      · split
        · show s.2.1 + (4 + zr_G (x.2.1 - 2)) ≤ _; omega
        · show s.2.1 + (2 + zr_G (x.2.1 - 2) + zr_G x.2.2) ≤ _; omega
    rw [List.foldl_cons, List.length_cons]
    omega
theorem zr_row_bw {w : Nat} {g : Nat → Nat} {ah sz sp dp ct pb bw rc : Nat} {pl ln ds : Nat → Nat} (hw : w ≤ 3) (h : zr_row w g ah sz sp dp ct pb bw rc pl ln ds) (hs : sz ≤ 300) (hp : sp ≤ 300) : bw ≤ 210000 := by
  obtain ⟨sel, la, se, th, h1, h2, h3⟩ := h
  have h4 := zr_pcs_len (sel := sel) (sz := sz) sz 0
  have h5 := zr_bw_b (w := w) (g := g) (ah := ah) (sz := sz) (sp := sp) (dp := dp) (sel := sel) (zr_pcs sel sz sz 0) (fun x hx => by
    rcases zr_pcs_mem hw h1 sz 0 x hx with h6 | h6
    · exact Or.inl h6
    · exact Or.inr ⟨h6.1, h6.2.1, h6.2.2.1, by omega⟩) (0, 0, 0, 0, 0, 0)
  have h7 : (zr_bits (zr_pcs sel sz sz 0)).2.1 ≤ 0 + 700 * (zr_pcs sel sz sz 0).length := h5
  rw [h3] at h7
  have h8 : bw ≤ 0 + 700 * (zr_pcs sel sz sz 0).length := h7
  omega
theorem zk_inc9 (n : Nat) : nI n + Int32.ofInt 9 = nI (n + 9) := by rw [show Int32.ofInt 9 = nI 9 from by decide +kernel, nI_add]
theorem zk_m1 {k : Int32} (h1 : ¬ k < -1) (h2 : k < 0) : k = -1 := by
  have e1 : (-1 : Int32).toInt = -1 := by decide +kernel
  rw [Int32.lt_iff_toInt_lt, e1] at h1
  rw [Int32.lt_iff_toInt_lt, Int32.toInt_zero] at h2
  apply Int32.toInt_inj.mp
  rw [e1]
  omega
theorem zk_m2 {k : Int32} (h2 : ¬ k < 0) : ¬ k = -1 := fun h => h2 (by subst h; decide +kernel)
theorem zk_m3 {k : Int32} (h : -1 ≤ k) : ¬ k < -1 := by
  rw [Int32.le_iff_toInt_le] at h
  rw [Int32.lt_iff_toInt_lt]
  omega
theorem zr_lt3 {c : Prop} [Decidable c] {a b : Nat} (h : a = 0) : (if c then ((0, 0) : Nat × Nat) else (a, b)).1 < 3 := by
  subst h
  by_cases h : c
  · rw [if_pos h]; decide
  · rw [if_neg h]; show 0 < 3; omega
theorem zr_mct {g : Nat → Nat} {ah sz sp dp : Nat} {im ct P1 P2 P3 : Nat → Nat} (h : zr_mrows g ah sz sp dp im ct P1 P2 P3) {i : Nat} (h1 : im i = 1) (hi : i < 4) (hs : sz ≤ 300) : ct i ≤ 300 := by
  rcases h i hi with h2 | ⟨h2, sel, h3, h4⟩
  · omega
  · have h5 := zr_pcs_len (sel := sel) (sz := sz) sz 0
    rw [h4.1] at h5
    omega
theorem zk_0n {v : Int32} (h : v = 0) : v = nI 0 := by rw [nI_0]; exact h
theorem zk_0n' {v : Int32} (h : ¬ v = 0) : ¬ v = nI 0 := by rw [nI_0]; exact h
theorem zk_wout3 {v : Int32} (h1 : ¬ v < 0) (h2 : v ≤ nI 1) : ¬ (v < nI 0 ∨ nI 1 < v) := fun h => by
  rcases h with h | h
  · rw [nI_0] at h; exact h1 h
  · exact zk_gt_nle h h2
theorem zr_an_use {k w an : Int32} {P : List (Nat × Nat)} (h : zr_an k w an P) (h0 : ¬ k < 0) (h1 : k < nI P.length) (hl : P.length < 2 ^ 31) : an = if w = 0 then nI (P.getD k.toNatClampNeg (0, 0)).1 else nI (P.getD k.toNatClampNeg (0, 0)).2 := by
  rcases pk_ix k hl with h3 | h3 | ⟨j, hj, rfl⟩
  · exact absurd h3 h0
  · exact absurd h3 (zk_ln h1)
  · rw [nI_clamp (by omega)]
    exact h j hj rfl
def rmX5_make : Room := { frames := 3, cells := 0, slots := 0, locals := 69 }
set_option maxRecDepth 20000 in
theorem ziX5_make_5 : ∀ w ∈ wsX50, w ∈ wsX5_make := by decide +kernel
set_option maxHeartbeats 4000000 in
set_option maxRecDepth 100000 in
/-- make of the reference -/
theorem c_mmake (l : Launch) (D : va_G) (cI cZ cR : ClassId) (m_ : Nat) (tw : Nat) (sp : Nat) (dp : Nat) (mb : Nat) (sz : Nat) (ah : Nat) (mi : Nat) (mp : Nat) (m1 : Nat) (m2 : Nat) (m3 : Nat) (mc : Nat) (ml : Nat) (bl : Nat) (bd : Nat) (rp : Nat) (B : Nat → Nat) (im : Nat → Nat) (pc : Nat → Nat) (P1 : Nat → Nat) (P2 : Nat → Nat) (P3 : Nat → Nat) (C : Nat → Nat) (L : Nat → Nat) (w_ : Nat) (h0 : ah ≤ 60) (h1 : sz ≤ 300) (h2 : sp ≤ 300) (h3 : dp ≤ 64) (h4 : ∀ j, B j < 256) (h5 : zr_mrows (zr_v B ah) ah sz sp dp im pc P1 P2 P3) (h6 : w_ ≤ 3) : zk_Wv l yX5_make wsX5_make rmX5_make D (zk_t cI cZ cR) [.ref m_, .int (nI w_)] [(m_, .inr (5, [.int (nI tw), .int (nI sp), .int (nI dp), .ref mb, .int (nI sz), .int (nI ah), .ref mi, .ref mp, .ref m1, .ref m2, .ref m3, .ref mc, .ref ml, .int (nI bl), .int (nI bd), .int (nI rp)])), (mb, zk_a cI 360 B), (mi, zk_a cZ 4 im), (mp, zk_a cI 4 pc), (m1, zk_a cI 1200 P1), (m2, zk_a cI 1200 P2), (m3, zk_a cI 1200 P3), (mc, zk_a cI 301 C), (ml, zk_a cI 41 L)] (fun u : (Nat → Nat) × (Nat → Nat) × (Nat → Nat) × (Nat → Nat) × (Nat → Nat) × (Nat → Nat) × (Nat → Nat) × Nat × Nat => match u with | (im2, pc2, Q1, Q2, Q3, C2, L2, bl2, bd2) => zr_mrows (zr_v B ah) ah sz sp dp im2 pc2 Q1 Q2 Q3 ∧ im2 w_ = 1) (fun u => match u with | (im2, pc2, Q1, Q2, Q3, C2, L2, bl2, bd2) => [(m_, .inr (5, [.int (nI tw), .int (nI sp), .int (nI dp), .ref mb, .int (nI sz), .int (nI ah), .ref mi, .ref mp, .ref m1, .ref m2, .ref m3, .ref mc, .ref ml, .int (nI bl2), .int (nI bd2), .int (nI rp)])), (mb, zk_a cI 360 B), (mi, zk_a cZ 4 im2), (mp, zk_a cI 4 pc2), (m1, zk_a cI 1200 Q1), (m2, zk_a cI 1200 Q2), (m3, zk_a cI 1200 Q3), (mc, zk_a cI 301 C2), (ml, zk_a cI 41 L2)]) := by
  refine zk_enterV RX5 cX5_make 5 (by decide) rfl rfl (Nat.le_of_ble_eq_true rfl) ?_
  intro p e s m args below meth c ls A Q hx hb hml hown hts hP hK hD hN hl hA hS hret
  have hl : lv_has ls 5 [(0, .ref m_), (1, .int (nI w_))] := hl
  have f13 := hts (.fieldLink RX5 13 "MatchFindersModel" "isMade" "[Z") (by decide +kernel)
  have f17 := hts (.fieldLink RX5 17 "MatchFindersModel" "pieces" "[I") (by decide +kernel)
  have f39 := hts (.fieldLink RX5 39 "MatchFindersModel" "depth" "I") (by decide +kernel)
  have f45 := hts (.fieldLink RX5 45 "MatchFindersModel" "size" "I") (by decide +kernel)
  have f63 := hts (.fieldLink RX5 63 "MatchFindersModel" "bestLength" "I") (by decide +kernel)
  have f66 := hts (.fieldLink RX5 66 "MatchFindersModel" "bestDistance" "I") (by decide +kernel)
  refine lv_aload_n hx hb dX5_make_0 rfl (lv_at hl 0 rfl) ?_
  refine va_get (D := D) (ci := 5) (v := .ref mi) (C := RX5) (T := TX5) (N := 16) hx hb hts ziX5_make_5 hown hK hP 0 rfl rfl 6 (by decide) f13 (fun _ h9 => h9) rfl dX5_make_1 ?_
  refine lv_iload_n hx hb dX5_make_4 rfl (lv_at hl 1 rfl) ?_
  have him := zr_im_le h5 (i := w_) (by omega)
  refine zk_zld (v := im w_) hx hb hK hP 2 1 (i := w_) (g := im) rfl rfl (by omega) (by decide) rfl dX5_make_5 ?_
  refine zk_if_eq (tgt := 10) hx hb (by omega) dX5_make_6 (by decide) (fun c_1 => ?_) (fun c_1 => ?_)
  · skip
    refine lv_aload_n hx hb dX5_make_10 rfl (lv_at hl 0 rfl) ?_
    refine va_get (D := D) (ci := 5) (v := .ref mi) (C := RX5) (T := TX5) (N := 16) hx hb hts ziX5_make_5 hown hK hP 0 rfl rfl 6 (by decide) f13 (fun _ h9 => h9) rfl dX5_make_11 ?_
    refine lv_iload_n hx hb dX5_make_14 rfl (lv_at hl 1 rfl) ?_
    refine lv_iconst (v := (nI 1)) hx hb dX5_make_15 (by decide +kernel) ?_
    refine zk_zst (i := w_) (x := 1) (g := im) hx hb hK hP (zk_D hD rfl) hS 2 1 rfl rfl (by omega) (by decide) (by decide +kernel) dX5_make_16 (fun H locs hP hS => ?_)
    have hP : va_P D vwCl [(m_, .inr (5, [.int (nI tw), .int (nI sp), .int (nI dp), .ref mb, .int (nI sz), .int (nI ah), .ref mi, .ref mp, .ref m1, .ref m2, .ref m3, .ref mc, .ref ml, .int (nI bl), .int (nI bd), .int (nI rp)])), (mb, zk_a cI 360 B), (mi, zk_a cZ 4 (zk_up im w_ 1)), (mp, zk_a cI 4 pc), (m1, zk_a cI 1200 P1), (m2, zk_a cI 1200 P2), (m3, zk_a cI 1200 P3), (mc, zk_a cI 301 C), (ml, zk_a cI 41 L)] H := hP
    refine lv_aload_n hx hb dX5_make_17 rfl (lv_at hl 0 rfl) ?_
    refine va_get (D := D) (ci := 5) (v := .ref mp) (C := RX5) (T := TX5) (N := 16) hx hb hts ziX5_make_5 hown hK hP 0 rfl rfl 7 (by decide) f17 (fun _ h9 => h9) rfl dX5_make_18 ?_
    refine lv_iload_n hx hb dX5_make_21 rfl (lv_at hl 1 rfl) ?_
    refine lv_iconst (v := (nI 0)) hx hb dX5_make_22 (by decide +kernel) ?_
    refine zk_ist (i := w_) (x := 0) (g := pc) hx hb hK hP (zk_D hD rfl) hS 3 0 rfl rfl (by omega) (by decide) dX5_make_23 (fun H locs hP hS => ?_)
    have hP : va_P D vwCl [(m_, .inr (5, [.int (nI tw), .int (nI sp), .int (nI dp), .ref mb, .int (nI sz), .int (nI ah), .ref mi, .ref mp, .ref m1, .ref m2, .ref m3, .ref mc, .ref ml, .int (nI bl), .int (nI bd), .int (nI rp)])), (mb, zk_a cI 360 B), (mi, zk_a cZ 4 (zk_up im w_ 1)), (mp, zk_a cI 4 (zk_up pc w_ 0)), (m1, zk_a cI 1200 P1), (m2, zk_a cI 1200 P2), (m3, zk_a cI 1200 P3), (mc, zk_a cI 301 C), (ml, zk_a cI 41 L)] H := hP
    refine lv_iload_n hx hb dX5_make_24 rfl (lv_at hl 1 rfl) ?_
    refine lv_iconst (v := (nI 3)) hx hb dX5_make_25 (by decide +kernel) ?_
    refine zk_icmp_ne (tgt := 34) hx hb (by omega) (by omega) dX5_make_26 (by decide) (fun c_2 => ?_) (fun c_2 => ?_)
    · skip
      have hw3 : w_ ≠ 3 := c_2
      refine lv_iconst (v := (nI 0)) hx hb dX5_make_34 (by decide +kernel) ?_
      refine lv_istore_n (lv' := [(2, .int (nI 0)), (0, .ref m_), (1, .int (nI w_))]) hx hb dX5_make_35 rfl hl (by decide) rfl (fun ls hl => ?_)
      have L36 : ∀ (n : Nat) (pp : Nat) (pc1 : Nat → Nat) (R1 : Nat → Nat) (R2 : Nat → Nat) (R3 : Nat → Nat) (bl1 : Nat) (bd1 : Nat) (P : List (Nat × Nat × Nat)) (ls : Array Slot) (H : Heap) (locs : List Loc), (pp ≤ sz) → (pc1 w_ ≤ pp) → (P ++ zr_pcs (zr_sel w_ (zr_v B ah) ah sz sp dp (fun _ => 0) (fun _ => 0)) sz (sz - pc1 w_) pp = zr_pcs (zr_sel w_ (zr_v B ah) ah sz sp dp (fun _ => 0) (fun _ => 0)) sz sz 0) → (zr_holds P (fun k => R1 (300 * w_ + k)) (fun k => R2 (300 * w_ + k)) (fun k => R3 (300 * w_ + k)) (pc1 w_)) → (∀ i, i ≠ w_ → pc1 i = pc i) → (zr_sep w_ P1 R1) → (zr_sep w_ P2 R2) → (zr_sep w_ P3 R3) → (sz - pp) < n → va_P D vwCl [(m_, .inr (5, [.int (nI tw), .int (nI sp), .int (nI dp), .ref mb, .int (nI sz), .int (nI ah), .ref mi, .ref mp, .ref m1, .ref m2, .ref m3, .ref mc, .ref ml, .int (nI bl1), .int (nI bd1), .int (nI rp)])), (mb, zk_a cI 360 B), (mi, zk_a cZ 4 (zk_up im w_ 1)), (mp, zk_a cI 4 pc1), (m1, zk_a cI 1200 R1), (m2, zk_a cI 1200 R2), (m3, zk_a cI 1200 R3), (mc, zk_a cI 301 C), (ml, zk_a cI 41 L)] H → va_S A s.heap H locs → lv_has ls 5 [(0, .ref m_), (1, .int (nI w_)), (2, .int (nI pp))] → W p l e rmX5_make s m args below meth c H locs 0 0 Q (F0 m 36 ls []) := by
        intro n
        induction n with
        | zero => intro pp pc1 R1 R2 R3 bl1 bd1 P ls H locs g36_0 g36_1 g36_2 g36_3 g36_4 g36_5 g36_6 g36_7 hm hP hS hl; exact absurd hm (by omega)
        | succ n ih36 =>
          intro pp pc1 R1 R2 R3 bl1 bd1 P ls H locs g36_0 g36_1 g36_2 g36_3 g36_4 g36_5 g36_6 g36_7 hm hP hS hl
          refine lv_iload_n hx hb dX5_make_36 rfl (lv_at hl 2 rfl) ?_
          refine lv_aload_n hx hb dX5_make_37 rfl (lv_at hl 0 rfl) ?_
          refine va_get (D := D) (ci := 5) (v := .int (nI sz)) (C := RX5) (T := TX5) (N := 16) hx hb hts ziX5_make_5 hown hK hP 0 rfl rfl 4 (by decide) f45 (fun _ h9 => h9) rfl dX5_make_38 ?_
          refine zk_icmp_ge (tgt := 158) hx hb (by omega) (by omega) dX5_make_41 (by decide) (fun c_3 => ?_) (fun c_3 => ?_)
          · skip
            exact hret _ ls _ _ (zk_up im w_ 1, pc1, R1, R2, R3, C, L, bl1, bd1) dX5_make_158 ⟨zr_mrows_mk h1 h5 ⟨_, zr_ok_lt (by omega) hw3, by rw [← g36_2, zr_pcs_end (by omega), List.append_nil]; exact g36_3⟩ g36_4 g36_5 g36_6 g36_7, zk_up_eq _ _ _⟩ hP hS
          · skip
            refine lv_aload_n hx hb dX5_make_44 rfl (lv_at hl 0 rfl) ?_
            refine lv_iload_n hx hb dX5_make_45 rfl (lv_at hl 2 rfl) ?_
            refine lv_iload_n hx hb dX5_make_46 rfl (lv_at hl 1 rfl) ?_
            refine lv_iconst (v := (nI 1)) hx hb dX5_make_47 (by decide +kernel) ?_
            refine zk_icmp_ne (tgt := 58) hx hb (by omega) (by omega) dX5_make_48 (by decide) (fun c_4 => ?_) (fun c_4 => ?_)
            · skip
              refine lv_sipush (v := (nI 301)) hx hb dX5_make_58 (by decide +kernel) ?_
              refine zk_wrV (As := [.int (nI pp), .int (nI 301)]) (rest := []) ⟨hx, hb, hml, hown, hts⟩ hN (c_find l D cI cZ cR m_ tw sp dp mb sz ah mi mp m1 m2 m3 mc ml bl1 bd1 rp B pp 301 (by omega) (by omega) (by omega) (by omega) (by omega) h4) (cwV 2 hts gX5_make_X5_find rfl rfl rfl (by decide +kernel) ⟨Nat.le_of_ble_eq_true rfl, Nat.le_of_ble_eq_true rfl⟩) hK hP (zk_D hD rfl) hS hA [0, 1] rfl (by decide) (fun _ => rfl) rfl rfl rfl rfl hl.1 rfl (Nat.le_of_ble_eq_true rfl) dX5_make_61 ⟨Nat.zero_le _, Nat.zero_le _⟩ (fun u H locs hu hP hS => ?_)
              obtain ⟨bl9, bd9⟩ := u
              have hu : zr_ch (zr_lg (zr_v B ah) ah sz pp) 301 sp 1 0 0 0 = (bl9, bd9) := hu
              have hP : va_P D vwCl [(m_, .inr (5, [.int (nI tw), .int (nI sp), .int (nI dp), .ref mb, .int (nI sz), .int (nI ah), .ref mi, .ref mp, .ref m1, .ref m2, .ref m3, .ref mc, .ref ml, .int (nI bl9), .int (nI bd9), .int (nI rp)])), (mb, zk_a cI 360 B), (mi, zk_a cZ 4 (zk_up im w_ 1)), (mp, zk_a cI 4 pc1), (m1, zk_a cI 1200 R1), (m2, zk_a cI 1200 R2), (m3, zk_a cI 1200 R3), (mc, zk_a cI 301 C), (ml, zk_a cI 41 L)] H := hP
              have hz := zr_ch_03' hu
              have hle0 := zr_ch_le hu (by omega)
              rw [zr_find0 h2] at hu
              have hle : bl9 = 0 ∨ bl9 ≤ min 40 (sz - pp) := by omega
              refine lv_aload_n hx hb dX5_make_64 rfl (lv_at hl 0 rfl) ?_
              refine va_get (D := D) (ci := 5) (v := .int (nI bl9)) (C := RX5) (T := TX5) (N := 16) hx hb hts ziX5_make_5 hown hK hP 0 rfl rfl 13 (by decide) f63 (fun _ h9 => h9) rfl dX5_make_65 ?_
              refine lv_istore_n (lv' := [(3, .int (nI bl9)), (0, .ref m_), (1, .int (nI w_)), (2, .int (nI pp))]) hx hb dX5_make_68 rfl hl (by decide) rfl (fun ls hl => ?_)
              refine lv_aload_n hx hb dX5_make_69 rfl (lv_at hl 1 rfl) ?_
              refine va_get (D := D) (ci := 5) (v := .int (nI bd9)) (C := RX5) (T := TX5) (N := 16) hx hb hts ziX5_make_5 hown hK hP 0 rfl rfl 14 (by decide) f66 (fun _ h9 => h9) rfl dX5_make_70 ?_
              refine lv_istore (lv' := [(4, .int (nI bd9)), (3, .int (nI bl9)), (0, .ref m_), (1, .int (nI w_)), (2, .int (nI pp))]) hx hb dX5_make_73 hl (by decide) rfl (fun ls hl => ?_)
              refine lv_iload_n hx hb dX5_make_75 rfl (lv_at hl 3 rfl) ?_
              refine lv_iconst (v := (nI 2)) hx hb dX5_make_76 (by decide +kernel) ?_
              refine zk_icmp_ne (tgt := 118) hx hb (by omega) (by omega) dX5_make_77 (by decide) (fun c_5 => ?_) (fun c_5 => ?_)
              · skip
                have hse : (zr_sel w_ (zr_v B ah) ah sz sp dp (fun _ => 0) (fun _ => 0)) pp = (bl9, bd9) := zr_sel_0 (by omega) c_5 c_4 hu
                refine lv_aload_n hx hb dX5_make_118 rfl (lv_at hl 2 rfl) ?_
                refine lv_iload_n hx hb dX5_make_119 rfl (lv_at hl 3 rfl) ?_
                refine lv_iload_n hx hb dX5_make_120 rfl (lv_at hl 4 rfl) ?_
                refine lv_iload_n hx hb dX5_make_121 rfl (lv_at hl 1 rfl) ?_
                refine zk_if_ne (tgt := 129) hx hb (by omega) dX5_make_122 (by decide) (fun c_6 => ?_) (fun c_6 => ?_)
                · skip
                  refine lv_iload_n hx hb dX5_make_129 rfl (lv_at hl 1 rfl) ?_
                  refine lv_iload_n hx hb dX5_make_130 rfl (lv_at hl 1 rfl) ?_
                  refine zk_if_ne (tgt := 138) hx hb (by omega) dX5_make_131 (by decide) (fun c_7 => ?_) (fun c_7 => absurd c_7 (by omega))
                  refine lv_iload hx hb dX5_make_138 (lv_at hl 0 rfl) ?_
                  refine zk_wrV (As := [.int (nI w_), .int (nI pp), .int (nI bl9), .int (nI bd9)]) (rest := []) ⟨hx, hb, hml, hown, hts⟩ hN (c_lay4 l D cI cZ cR m_ tw sp dp mb sz ah mi mp m1 m2 m3 mc ml bl9 bd9 rp pc1 R1 R2 R3 w_ pp bl9 bd9 (by omega) (by omega)) (cwV 4 hts gX5_make_X5_lay_ rfl rfl rfl (by decide +kernel) ⟨Nat.le_of_ble_eq_true rfl, Nat.le_of_ble_eq_true rfl⟩) hK hP (zk_D hD rfl) hS hA [0, 3, 4, 5, 6] rfl (by decide) (fun _ => rfl) rfl rfl rfl rfl hl.1 rfl (Nat.le_of_ble_eq_true rfl) dX5_make_140 ⟨Nat.zero_le _, Nat.zero_le _⟩ (fun u H locs hu4 hP hS => ?_)
                  have hP : va_P D vwCl [(m_, .inr (5, [.int (nI tw), .int (nI sp), .int (nI dp), .ref mb, .int (nI sz), .int (nI ah), .ref mi, .ref mp, .ref m1, .ref m2, .ref m3, .ref mc, .ref ml, .int (nI bl9), .int (nI bd9), .int (nI rp)])), (mb, zk_a cI 360 B), (mi, zk_a cZ 4 (zk_up im w_ 1)), (mp, zk_a cI 4 (zk_up pc1 w_ (pc1 w_ + 1))), (m1, zk_a cI 1200 (zk_up R1 (300 * w_ + pc1 w_) pp)), (m2, zk_a cI 1200 (zk_up R2 (300 * w_ + pc1 w_) bl9)), (m3, zk_a cI 1200 (zk_up R3 (300 * w_ + pc1 w_) bd9)), (mc, zk_a cI 301 C), (ml, zk_a cI 41 L)] H := hP
                  refine lv_iload_n hx hb dX5_make_143 rfl (lv_at hl 4 rfl) ?_
                  refine lv_iload_n hx hb dX5_make_144 rfl (lv_at hl 1 rfl) ?_
                  refine zk_if_ne (tgt := 152) hx hb (by omega) dX5_make_145 (by decide) (fun c_8 => ?_) (fun c_8 => absurd c_8 (by omega))
                  refine lv_iload_n hx hb dX5_make_152 rfl (lv_at hl 1 rfl) ?_
                  refine zk_add (v := pp + bl9) hx hb (rfl) dX5_make_153 ?_
                  refine lv_istore_n (lv' := [(2, .int (nI (pp + bl9))), (4, .int (nI bd9)), (3, .int (nI bl9)), (0, .ref m_), (1, .int (nI w_))]) hx hb dX5_make_154 rfl hl (by decide) rfl (fun ls hl => ?_)
                  refine lv_goto (tgt := 36) hx hb dX5_make_155 (by decide) ?_
                  exact ih36 (pp + bl9) (zk_up pc1 w_ (pc1 w_ + 1)) (zk_up R1 (300 * w_ + pc1 w_) pp) (zk_up R2 (300 * w_ + pc1 w_) bl9) (zk_up R3 (300 * w_ + pc1 w_) bd9) bl9 bd9 (P ++ [(pp, bl9, bd9)]) ls _ _ (by omega) (by rw [zk_up_eq]; omega) (by rw [← g36_2, zk_up_eq, zr_pcs_m (n := sz - pc1 w_) (k := sz - (pc1 w_ + 1)) (le := bl9) (di := bd9) (by omega) hse (by omega) (by omega), List.append_assoc]; rfl) (by rw [zk_up_eq]; exact zr_hpush g36_3) (fun i h9 => by rw [zk_up_ne h9]; exact g36_4 i h9) (zr_sep_up g36_5 (by omega)) (zr_sep_up g36_6 (by omega)) (zr_sep_up g36_7 (by omega)) (by omega) hP hS (lv_sub hl [3, 4, 0] rfl)
                · skip
                  refine lv_iconst (v := (nI 1)) hx hb dX5_make_125 (by decide +kernel) ?_
                  refine lv_goto (tgt := 130) hx hb dX5_make_126 (by decide) ?_
                  refine lv_iload_n hx hb dX5_make_130 rfl (lv_at hl 1 rfl) ?_
                  refine zk_if_ne (tgt := 138) hx hb (by omega) dX5_make_131 (by decide) (fun c_9 => absurd c_9 (by omega)) (fun c_9 => ?_)
                  refine lv_iconst (v := (nI 0)) hx hb dX5_make_134 (by decide +kernel) ?_
                  refine lv_goto (tgt := 140) hx hb dX5_make_135 (by decide) ?_
                  refine zk_wrV (As := [.int (nI w_), .int (nI pp), .int (nI 1), .int (nI 0)]) (rest := []) ⟨hx, hb, hml, hown, hts⟩ hN (c_lay4 l D cI cZ cR m_ tw sp dp mb sz ah mi mp m1 m2 m3 mc ml bl9 bd9 rp pc1 R1 R2 R3 w_ pp 1 0 (by omega) (by omega)) (cwV 4 hts gX5_make_X5_lay_ rfl rfl rfl (by decide +kernel) ⟨Nat.le_of_ble_eq_true rfl, Nat.le_of_ble_eq_true rfl⟩) hK hP (zk_D hD rfl) hS hA [0, 3, 4, 5, 6] rfl (by decide) (fun _ => rfl) rfl rfl rfl rfl hl.1 rfl (Nat.le_of_ble_eq_true rfl) dX5_make_140 ⟨Nat.zero_le _, Nat.zero_le _⟩ (fun u H locs hu4 hP hS => ?_)
                  have hP : va_P D vwCl [(m_, .inr (5, [.int (nI tw), .int (nI sp), .int (nI dp), .ref mb, .int (nI sz), .int (nI ah), .ref mi, .ref mp, .ref m1, .ref m2, .ref m3, .ref mc, .ref ml, .int (nI bl9), .int (nI bd9), .int (nI rp)])), (mb, zk_a cI 360 B), (mi, zk_a cZ 4 (zk_up im w_ 1)), (mp, zk_a cI 4 (zk_up pc1 w_ (pc1 w_ + 1))), (m1, zk_a cI 1200 (zk_up R1 (300 * w_ + pc1 w_) pp)), (m2, zk_a cI 1200 (zk_up R2 (300 * w_ + pc1 w_) 1)), (m3, zk_a cI 1200 (zk_up R3 (300 * w_ + pc1 w_) 0)), (mc, zk_a cI 301 C), (ml, zk_a cI 41 L)] H := hP
                  refine lv_iload_n hx hb dX5_make_143 rfl (lv_at hl 4 rfl) ?_
                  refine lv_iload_n hx hb dX5_make_144 rfl (lv_at hl 1 rfl) ?_
                  refine zk_if_ne (tgt := 152) hx hb (by omega) dX5_make_145 (by decide) (fun c_10 => absurd c_10 (by omega)) (fun c_10 => ?_)
                  refine lv_iconst (v := (nI 1)) hx hb dX5_make_148 (by decide +kernel) ?_
                  refine lv_goto (tgt := 153) hx hb dX5_make_149 (by decide) ?_
                  refine zk_add (v := pp + 1) hx hb (rfl) dX5_make_153 ?_
                  refine lv_istore_n (lv' := [(2, .int (nI (pp + 1))), (4, .int (nI bd9)), (3, .int (nI bl9)), (0, .ref m_), (1, .int (nI w_))]) hx hb dX5_make_154 rfl hl (by decide) rfl (fun ls hl => ?_)
                  refine lv_goto (tgt := 36) hx hb dX5_make_155 (by decide) ?_
                  exact ih36 (pp + 1) (zk_up pc1 w_ (pc1 w_ + 1)) (zk_up R1 (300 * w_ + pc1 w_) pp) (zk_up R2 (300 * w_ + pc1 w_) 1) (zk_up R3 (300 * w_ + pc1 w_) 0) bl9 bd9 (P ++ [(pp, 1, 0)]) ls _ _ (by omega) (by rw [zk_up_eq]; omega) (by rw [← g36_2, zk_up_eq, zr_pcs_l (n := sz - pc1 w_) (k := sz - (pc1 w_ + 1)) (le := bl9) (di := bd9) (by omega) hse (by omega) (by omega), List.append_assoc]; rfl) (by rw [zk_up_eq]; exact zr_hpush g36_3) (fun i h9 => by rw [zk_up_ne h9]; exact g36_4 i h9) (zr_sep_up g36_5 (by omega)) (zr_sep_up g36_6 (by omega)) (zr_sep_up g36_7 (by omega)) (by omega) hP hS (lv_sub hl [3, 4, 0] rfl)
              · skip
                have hs2 := zr_sel_2 (g := (zr_v B ah)) (ah := ah) (sz := sz) (sp := sp) (dp := dp) (q := pp) (pn := fun _ => 0) (pd := fun _ => 0) c_5
                rw [hu] at hs2
                refine lv_iload_n hx hb dX5_make_80 rfl (lv_at hl 1 rfl) ?_
                refine zk_if_le (tgt := 118) hx hb (by omega) dX5_make_81 (by decide) (fun c_11 => ?_) (fun c_11 => ?_)
                · skip
                  have hse3 : ((zr_sel w_ (zr_v B ah) ah sz sp dp (fun _ => 0) (fun _ => 0)) pp).1 < 3 := by rw [hs2]; exact zr_lt3 c_11
                  obtain ⟨le8, di8, hse⟩ : ∃ a b, (zr_sel w_ (zr_v B ah) ah sz sp dp (fun _ => 0) (fun _ => 0)) pp = (a, b) := ⟨_, _, rfl⟩
                  rw [hse] at hse3
                  have hse3 : le8 < 3 := hse3
                  refine lv_aload_n hx hb dX5_make_118 rfl (lv_at hl 2 rfl) ?_
                  refine lv_iload_n hx hb dX5_make_119 rfl (lv_at hl 3 rfl) ?_
                  refine lv_iload_n hx hb dX5_make_120 rfl (lv_at hl 4 rfl) ?_
                  refine lv_iload_n hx hb dX5_make_121 rfl (lv_at hl 1 rfl) ?_
                  refine zk_if_ne (tgt := 129) hx hb (by omega) dX5_make_122 (by decide) (fun c_12 => absurd c_12 (by omega)) (fun c_12 => ?_)
                  refine lv_iconst (v := (nI 1)) hx hb dX5_make_125 (by decide +kernel) ?_
                  refine lv_goto (tgt := 130) hx hb dX5_make_126 (by decide) ?_
                  refine lv_iload_n hx hb dX5_make_130 rfl (lv_at hl 1 rfl) ?_
                  refine zk_if_ne (tgt := 138) hx hb (by omega) dX5_make_131 (by decide) (fun c_13 => absurd c_13 (by omega)) (fun c_13 => ?_)
                  refine lv_iconst (v := (nI 0)) hx hb dX5_make_134 (by decide +kernel) ?_
                  refine lv_goto (tgt := 140) hx hb dX5_make_135 (by decide) ?_
                  refine zk_wrV (As := [.int (nI w_), .int (nI pp), .int (nI 1), .int (nI 0)]) (rest := []) ⟨hx, hb, hml, hown, hts⟩ hN (c_lay4 l D cI cZ cR m_ tw sp dp mb sz ah mi mp m1 m2 m3 mc ml bl9 bd9 rp pc1 R1 R2 R3 w_ pp 1 0 (by omega) (by omega)) (cwV 4 hts gX5_make_X5_lay_ rfl rfl rfl (by decide +kernel) ⟨Nat.le_of_ble_eq_true rfl, Nat.le_of_ble_eq_true rfl⟩) hK hP (zk_D hD rfl) hS hA [0, 3, 4, 5, 6] rfl (by decide) (fun _ => rfl) rfl rfl rfl rfl hl.1 rfl (Nat.le_of_ble_eq_true rfl) dX5_make_140 ⟨Nat.zero_le _, Nat.zero_le _⟩ (fun u H locs hu4 hP hS => ?_)
                  have hP : va_P D vwCl [(m_, .inr (5, [.int (nI tw), .int (nI sp), .int (nI dp), .ref mb, .int (nI sz), .int (nI ah), .ref mi, .ref mp, .ref m1, .ref m2, .ref m3, .ref mc, .ref ml, .int (nI bl9), .int (nI bd9), .int (nI rp)])), (mb, zk_a cI 360 B), (mi, zk_a cZ 4 (zk_up im w_ 1)), (mp, zk_a cI 4 (zk_up pc1 w_ (pc1 w_ + 1))), (m1, zk_a cI 1200 (zk_up R1 (300 * w_ + pc1 w_) pp)), (m2, zk_a cI 1200 (zk_up R2 (300 * w_ + pc1 w_) 1)), (m3, zk_a cI 1200 (zk_up R3 (300 * w_ + pc1 w_) 0)), (mc, zk_a cI 301 C), (ml, zk_a cI 41 L)] H := hP
                  refine lv_iload_n hx hb dX5_make_143 rfl (lv_at hl 4 rfl) ?_
                  refine lv_iload_n hx hb dX5_make_144 rfl (lv_at hl 1 rfl) ?_
                  refine zk_if_ne (tgt := 152) hx hb (by omega) dX5_make_145 (by decide) (fun c_14 => absurd c_14 (by omega)) (fun c_14 => ?_)
                  refine lv_iconst (v := (nI 1)) hx hb dX5_make_148 (by decide +kernel) ?_
                  refine lv_goto (tgt := 153) hx hb dX5_make_149 (by decide) ?_
                  refine zk_add (v := pp + 1) hx hb (rfl) dX5_make_153 ?_
                  refine lv_istore_n (lv' := [(2, .int (nI (pp + 1))), (4, .int (nI bd9)), (3, .int (nI bl9)), (0, .ref m_), (1, .int (nI w_))]) hx hb dX5_make_154 rfl hl (by decide) rfl (fun ls hl => ?_)
                  refine lv_goto (tgt := 36) hx hb dX5_make_155 (by decide) ?_
                  exact ih36 (pp + 1) (zk_up pc1 w_ (pc1 w_ + 1)) (zk_up R1 (300 * w_ + pc1 w_) pp) (zk_up R2 (300 * w_ + pc1 w_) 1) (zk_up R3 (300 * w_ + pc1 w_) 0) bl9 bd9 (P ++ [(pp, 1, 0)]) ls _ _ (by omega) (by rw [zk_up_eq]; omega) (by rw [← g36_2, zk_up_eq, zr_pcs_l (n := sz - pc1 w_) (k := sz - (pc1 w_ + 1)) (le := le8) (di := di8) (by omega) hse (by omega) (by omega), List.append_assoc]; rfl) (by rw [zk_up_eq]; exact zr_hpush g36_3) (fun i h9 => by rw [zk_up_ne h9]; exact g36_4 i h9) (zr_sep_up g36_5 (by omega)) (zr_sep_up g36_6 (by omega)) (zr_sep_up g36_7 (by omega)) (by omega) hP hS (lv_sub hl [3, 4, 0] rfl)
                · skip
                  refine lv_iload_n hx hb dX5_make_84 rfl (lv_at hl 4 rfl) ?_
                  refine lv_iconst (v := (nI 1)) hx hb dX5_make_85 (by decide +kernel) ?_
                  refine zk_add (v := pp + 1) hx hb (rfl) dX5_make_86 ?_
                  refine lv_aload_n hx hb dX5_make_87 rfl (lv_at hl 2 rfl) ?_
                  refine va_get (D := D) (ci := 5) (v := .int (nI sz)) (C := RX5) (T := TX5) (N := 16) hx hb hts ziX5_make_5 hown hK hP 0 rfl rfl 4 (by decide) f45 (fun _ h9 => h9) rfl dX5_make_88 ?_
                  refine zk_icmp_ge (tgt := 118) hx hb (by omega) (by omega) dX5_make_91 (by decide) (fun c_15 => ?_) (fun c_15 => ?_)
                  · skip
                    have hse : (zr_sel w_ (zr_v B ah) ah sz sp dp (fun _ => 0) (fun _ => 0)) pp = (bl9, bd9) := by rw [hs2, zr_s0_end (q := pp + 1) (by omega), if_neg (by show ¬ bl9 < 0; omega)]
                    refine lv_aload_n hx hb dX5_make_118 rfl (lv_at hl 2 rfl) ?_
                    refine lv_iload_n hx hb dX5_make_119 rfl (lv_at hl 3 rfl) ?_
                    refine lv_iload_n hx hb dX5_make_120 rfl (lv_at hl 4 rfl) ?_
                    refine lv_iload_n hx hb dX5_make_121 rfl (lv_at hl 1 rfl) ?_
                    refine zk_if_ne (tgt := 129) hx hb (by omega) dX5_make_122 (by decide) (fun c_16 => ?_) (fun c_16 => ?_)
                    · skip
                      refine lv_iload_n hx hb dX5_make_129 rfl (lv_at hl 1 rfl) ?_
                      refine lv_iload_n hx hb dX5_make_130 rfl (lv_at hl 1 rfl) ?_
                      refine zk_if_ne (tgt := 138) hx hb (by omega) dX5_make_131 (by decide) (fun c_17 => ?_) (fun c_17 => absurd c_17 (by omega))
                      refine lv_iload hx hb dX5_make_138 (lv_at hl 0 rfl) ?_
                      refine zk_wrV (As := [.int (nI w_), .int (nI pp), .int (nI bl9), .int (nI bd9)]) (rest := []) ⟨hx, hb, hml, hown, hts⟩ hN (c_lay4 l D cI cZ cR m_ tw sp dp mb sz ah mi mp m1 m2 m3 mc ml bl9 bd9 rp pc1 R1 R2 R3 w_ pp bl9 bd9 (by omega) (by omega)) (cwV 4 hts gX5_make_X5_lay_ rfl rfl rfl (by decide +kernel) ⟨Nat.le_of_ble_eq_true rfl, Nat.le_of_ble_eq_true rfl⟩) hK hP (zk_D hD rfl) hS hA [0, 3, 4, 5, 6] rfl (by decide) (fun _ => rfl) rfl rfl rfl rfl hl.1 rfl (Nat.le_of_ble_eq_true rfl) dX5_make_140 ⟨Nat.zero_le _, Nat.zero_le _⟩ (fun u H locs hu4 hP hS => ?_)
                      have hP : va_P D vwCl [(m_, .inr (5, [.int (nI tw), .int (nI sp), .int (nI dp), .ref mb, .int (nI sz), .int (nI ah), .ref mi, .ref mp, .ref m1, .ref m2, .ref m3, .ref mc, .ref ml, .int (nI bl9), .int (nI bd9), .int (nI rp)])), (mb, zk_a cI 360 B), (mi, zk_a cZ 4 (zk_up im w_ 1)), (mp, zk_a cI 4 (zk_up pc1 w_ (pc1 w_ + 1))), (m1, zk_a cI 1200 (zk_up R1 (300 * w_ + pc1 w_) pp)), (m2, zk_a cI 1200 (zk_up R2 (300 * w_ + pc1 w_) bl9)), (m3, zk_a cI 1200 (zk_up R3 (300 * w_ + pc1 w_) bd9)), (mc, zk_a cI 301 C), (ml, zk_a cI 41 L)] H := hP
                      refine lv_iload_n hx hb dX5_make_143 rfl (lv_at hl 4 rfl) ?_
                      refine lv_iload_n hx hb dX5_make_144 rfl (lv_at hl 1 rfl) ?_
                      refine zk_if_ne (tgt := 152) hx hb (by omega) dX5_make_145 (by decide) (fun c_18 => ?_) (fun c_18 => absurd c_18 (by omega))
                      refine lv_iload_n hx hb dX5_make_152 rfl (lv_at hl 1 rfl) ?_
                      refine zk_add (v := pp + bl9) hx hb (rfl) dX5_make_153 ?_
                      refine lv_istore_n (lv' := [(2, .int (nI (pp + bl9))), (4, .int (nI bd9)), (3, .int (nI bl9)), (0, .ref m_), (1, .int (nI w_))]) hx hb dX5_make_154 rfl hl (by decide) rfl (fun ls hl => ?_)
                      refine lv_goto (tgt := 36) hx hb dX5_make_155 (by decide) ?_
                      exact ih36 (pp + bl9) (zk_up pc1 w_ (pc1 w_ + 1)) (zk_up R1 (300 * w_ + pc1 w_) pp) (zk_up R2 (300 * w_ + pc1 w_) bl9) (zk_up R3 (300 * w_ + pc1 w_) bd9) bl9 bd9 (P ++ [(pp, bl9, bd9)]) ls _ _ (by omega) (by rw [zk_up_eq]; omega) (by rw [← g36_2, zk_up_eq, zr_pcs_m (n := sz - pc1 w_) (k := sz - (pc1 w_ + 1)) (le := bl9) (di := bd9) (by omega) hse (by omega) (by omega), List.append_assoc]; rfl) (by rw [zk_up_eq]; exact zr_hpush g36_3) (fun i h9 => by rw [zk_up_ne h9]; exact g36_4 i h9) (zr_sep_up g36_5 (by omega)) (zr_sep_up g36_6 (by omega)) (zr_sep_up g36_7 (by omega)) (by omega) hP hS (lv_sub hl [3, 4, 0] rfl)
                    · skip
                      refine lv_iconst (v := (nI 1)) hx hb dX5_make_125 (by decide +kernel) ?_
                      refine lv_goto (tgt := 130) hx hb dX5_make_126 (by decide) ?_
                      refine lv_iload_n hx hb dX5_make_130 rfl (lv_at hl 1 rfl) ?_
                      refine zk_if_ne (tgt := 138) hx hb (by omega) dX5_make_131 (by decide) (fun c_19 => absurd c_19 (by omega)) (fun c_19 => ?_)
                      refine lv_iconst (v := (nI 0)) hx hb dX5_make_134 (by decide +kernel) ?_
                      refine lv_goto (tgt := 140) hx hb dX5_make_135 (by decide) ?_
                      refine zk_wrV (As := [.int (nI w_), .int (nI pp), .int (nI 1), .int (nI 0)]) (rest := []) ⟨hx, hb, hml, hown, hts⟩ hN (c_lay4 l D cI cZ cR m_ tw sp dp mb sz ah mi mp m1 m2 m3 mc ml bl9 bd9 rp pc1 R1 R2 R3 w_ pp 1 0 (by omega) (by omega)) (cwV 4 hts gX5_make_X5_lay_ rfl rfl rfl (by decide +kernel) ⟨Nat.le_of_ble_eq_true rfl, Nat.le_of_ble_eq_true rfl⟩) hK hP (zk_D hD rfl) hS hA [0, 3, 4, 5, 6] rfl (by decide) (fun _ => rfl) rfl rfl rfl rfl hl.1 rfl (Nat.le_of_ble_eq_true rfl) dX5_make_140 ⟨Nat.zero_le _, Nat.zero_le _⟩ (fun u H locs hu4 hP hS => ?_)
                      have hP : va_P D vwCl [(m_, .inr (5, [.int (nI tw), .int (nI sp), .int (nI dp), .ref mb, .int (nI sz), .int (nI ah), .ref mi, .ref mp, .ref m1, .ref m2, .ref m3, .ref mc, .ref ml, .int (nI bl9), .int (nI bd9), .int (nI rp)])), (mb, zk_a cI 360 B), (mi, zk_a cZ 4 (zk_up im w_ 1)), (mp, zk_a cI 4 (zk_up pc1 w_ (pc1 w_ + 1))), (m1, zk_a cI 1200 (zk_up R1 (300 * w_ + pc1 w_) pp)), (m2, zk_a cI 1200 (zk_up R2 (300 * w_ + pc1 w_) 1)), (m3, zk_a cI 1200 (zk_up R3 (300 * w_ + pc1 w_) 0)), (mc, zk_a cI 301 C), (ml, zk_a cI 41 L)] H := hP
                      refine lv_iload_n hx hb dX5_make_143 rfl (lv_at hl 4 rfl) ?_
                      refine lv_iload_n hx hb dX5_make_144 rfl (lv_at hl 1 rfl) ?_
                      refine zk_if_ne (tgt := 152) hx hb (by omega) dX5_make_145 (by decide) (fun c_20 => absurd c_20 (by omega)) (fun c_20 => ?_)
                      refine lv_iconst (v := (nI 1)) hx hb dX5_make_148 (by decide +kernel) ?_
                      refine lv_goto (tgt := 153) hx hb dX5_make_149 (by decide) ?_
                      refine zk_add (v := pp + 1) hx hb (rfl) dX5_make_153 ?_
                      refine lv_istore_n (lv' := [(2, .int (nI (pp + 1))), (4, .int (nI bd9)), (3, .int (nI bl9)), (0, .ref m_), (1, .int (nI w_))]) hx hb dX5_make_154 rfl hl (by decide) rfl (fun ls hl => ?_)
                      refine lv_goto (tgt := 36) hx hb dX5_make_155 (by decide) ?_
                      exact ih36 (pp + 1) (zk_up pc1 w_ (pc1 w_ + 1)) (zk_up R1 (300 * w_ + pc1 w_) pp) (zk_up R2 (300 * w_ + pc1 w_) 1) (zk_up R3 (300 * w_ + pc1 w_) 0) bl9 bd9 (P ++ [(pp, 1, 0)]) ls _ _ (by omega) (by rw [zk_up_eq]; omega) (by rw [← g36_2, zk_up_eq, zr_pcs_l (n := sz - pc1 w_) (k := sz - (pc1 w_ + 1)) (le := bl9) (di := bd9) (by omega) hse (by omega) (by omega), List.append_assoc]; rfl) (by rw [zk_up_eq]; exact zr_hpush g36_3) (fun i h9 => by rw [zk_up_ne h9]; exact g36_4 i h9) (zr_sep_up g36_5 (by omega)) (zr_sep_up g36_6 (by omega)) (zr_sep_up g36_7 (by omega)) (by omega) hP hS (lv_sub hl [3, 4, 0] rfl)
                  · skip
                    refine lv_aload_n hx hb dX5_make_94 rfl (lv_at hl 2 rfl) ?_
                    refine lv_iload_n hx hb dX5_make_95 rfl (lv_at hl 4 rfl) ?_
                    refine lv_iconst (v := (nI 1)) hx hb dX5_make_96 (by decide +kernel) ?_
                    refine zk_add (v := pp + 1) hx hb (rfl) dX5_make_97 ?_
                    refine lv_sipush (v := (nI 301)) hx hb dX5_make_98 (by decide +kernel) ?_
                    refine zk_wrV (As := [.int (nI (pp + 1)), .int (nI 301)]) (rest := []) ⟨hx, hb, hml, hown, hts⟩ hN (c_find l D cI cZ cR m_ tw sp dp mb sz ah mi mp m1 m2 m3 mc ml bl9 bd9 rp B (pp + 1) 301 (by omega) (by omega) (by omega) (by omega) (by omega) h4) (cwV 2 hts gX5_make_X5_find rfl rfl rfl (by decide +kernel) ⟨Nat.le_of_ble_eq_true rfl, Nat.le_of_ble_eq_true rfl⟩) hK hP (zk_D hD rfl) hS hA [0, 1] rfl (by decide) (fun _ => rfl) rfl rfl rfl rfl hl.1 rfl (Nat.le_of_ble_eq_true rfl) dX5_make_101 ⟨Nat.zero_le _, Nat.zero_le _⟩ (fun u H locs hu8 hP hS => ?_)
                    obtain ⟨bl8, bd8⟩ := u
                    have hu8 : zr_ch (zr_lg (zr_v B ah) ah sz (pp + 1)) 301 sp 1 0 0 0 = (bl8, bd8) := hu8
                    have hP : va_P D vwCl [(m_, .inr (5, [.int (nI tw), .int (nI sp), .int (nI dp), .ref mb, .int (nI sz), .int (nI ah), .ref mi, .ref mp, .ref m1, .ref m2, .ref m3, .ref mc, .ref ml, .int (nI bl8), .int (nI bd8), .int (nI rp)])), (mb, zk_a cI 360 B), (mi, zk_a cZ 4 (zk_up im w_ 1)), (mp, zk_a cI 4 pc1), (m1, zk_a cI 1200 R1), (m2, zk_a cI 1200 R2), (m3, zk_a cI 1200 R3), (mc, zk_a cI 301 C), (ml, zk_a cI 41 L)] H := hP
                    have hle8 := zr_ch_le hu8 (by omega)
                    rw [zr_find0 h2] at hu8
                    rw [hu8] at hs2
                    refine lv_aload_n hx hb dX5_make_104 rfl (lv_at hl 2 rfl) ?_
                    refine va_get (D := D) (ci := 5) (v := .int (nI bl8)) (C := RX5) (T := TX5) (N := 16) hx hb hts ziX5_make_5 hown hK hP 0 rfl rfl 13 (by decide) f63 (fun _ h9 => h9) rfl dX5_make_105 ?_
                    refine lv_iload_n hx hb dX5_make_108 rfl (lv_at hl 1 rfl) ?_
                    refine zk_icmp_le (tgt := 116) hx hb (by omega) (by omega) dX5_make_109 (by decide) (fun c_21 => ?_) (fun c_21 => ?_)
                    · skip
                      have hse : (zr_sel w_ (zr_v B ah) ah sz sp dp (fun _ => 0) (fun _ => 0)) pp = (bl9, bd9) := by rw [hs2, if_neg (by show ¬ bl9 < bl8; omega)]
                      refine lv_iload_n hx hb dX5_make_116 rfl (lv_at hl 1 rfl) ?_
                      refine lv_istore_n (lv' := [(3, .int (nI bl9)), (4, .int (nI bd9)), (0, .ref m_), (1, .int (nI w_)), (2, .int (nI pp))]) hx hb dX5_make_117 rfl hl (by decide) rfl (fun ls hl => ?_)
                      refine lv_aload_n hx hb dX5_make_118 rfl (lv_at hl 2 rfl) ?_
                      refine lv_iload_n hx hb dX5_make_119 rfl (lv_at hl 3 rfl) ?_
                      refine lv_iload_n hx hb dX5_make_120 rfl (lv_at hl 4 rfl) ?_
                      refine lv_iload_n hx hb dX5_make_121 rfl (lv_at hl 0 rfl) ?_
                      refine zk_if_ne (tgt := 129) hx hb (by omega) dX5_make_122 (by decide) (fun c_22 => ?_) (fun c_22 => ?_)
                      · skip
                        refine lv_iload_n hx hb dX5_make_129 rfl (lv_at hl 0 rfl) ?_
                        refine lv_iload_n hx hb dX5_make_130 rfl (lv_at hl 0 rfl) ?_
                        refine zk_if_ne (tgt := 138) hx hb (by omega) dX5_make_131 (by decide) (fun c_23 => ?_) (fun c_23 => absurd c_23 (by omega))
                        refine lv_iload hx hb dX5_make_138 (lv_at hl 1 rfl) ?_
                        refine zk_wrV (As := [.int (nI w_), .int (nI pp), .int (nI bl9), .int (nI bd9)]) (rest := []) ⟨hx, hb, hml, hown, hts⟩ hN (c_lay4 l D cI cZ cR m_ tw sp dp mb sz ah mi mp m1 m2 m3 mc ml bl8 bd8 rp pc1 R1 R2 R3 w_ pp bl9 bd9 (by omega) (by omega)) (cwV 4 hts gX5_make_X5_lay_ rfl rfl rfl (by decide +kernel) ⟨Nat.le_of_ble_eq_true rfl, Nat.le_of_ble_eq_true rfl⟩) hK hP (zk_D hD rfl) hS hA [0, 3, 4, 5, 6] rfl (by decide) (fun _ => rfl) rfl rfl rfl rfl hl.1 rfl (Nat.le_of_ble_eq_true rfl) dX5_make_140 ⟨Nat.zero_le _, Nat.zero_le _⟩ (fun u H locs hu4 hP hS => ?_)
                        have hP : va_P D vwCl [(m_, .inr (5, [.int (nI tw), .int (nI sp), .int (nI dp), .ref mb, .int (nI sz), .int (nI ah), .ref mi, .ref mp, .ref m1, .ref m2, .ref m3, .ref mc, .ref ml, .int (nI bl8), .int (nI bd8), .int (nI rp)])), (mb, zk_a cI 360 B), (mi, zk_a cZ 4 (zk_up im w_ 1)), (mp, zk_a cI 4 (zk_up pc1 w_ (pc1 w_ + 1))), (m1, zk_a cI 1200 (zk_up R1 (300 * w_ + pc1 w_) pp)), (m2, zk_a cI 1200 (zk_up R2 (300 * w_ + pc1 w_) bl9)), (m3, zk_a cI 1200 (zk_up R3 (300 * w_ + pc1 w_) bd9)), (mc, zk_a cI 301 C), (ml, zk_a cI 41 L)] H := hP
                        refine lv_iload_n hx hb dX5_make_143 rfl (lv_at hl 4 rfl) ?_
                        refine lv_iload_n hx hb dX5_make_144 rfl (lv_at hl 0 rfl) ?_
                        refine zk_if_ne (tgt := 152) hx hb (by omega) dX5_make_145 (by decide) (fun c_24 => ?_) (fun c_24 => absurd c_24 (by omega))
                        refine lv_iload_n hx hb dX5_make_152 rfl (lv_at hl 0 rfl) ?_
                        refine zk_add (v := pp + bl9) hx hb (rfl) dX5_make_153 ?_
                        refine lv_istore_n (lv' := [(2, .int (nI (pp + bl9))), (3, .int (nI bl9)), (4, .int (nI bd9)), (0, .ref m_), (1, .int (nI w_))]) hx hb dX5_make_154 rfl hl (by decide) rfl (fun ls hl => ?_)
                        refine lv_goto (tgt := 36) hx hb dX5_make_155 (by decide) ?_
                        exact ih36 (pp + bl9) (zk_up pc1 w_ (pc1 w_ + 1)) (zk_up R1 (300 * w_ + pc1 w_) pp) (zk_up R2 (300 * w_ + pc1 w_) bl9) (zk_up R3 (300 * w_ + pc1 w_) bd9) bl8 bd8 (P ++ [(pp, bl9, bd9)]) ls _ _ (by omega) (by rw [zk_up_eq]; omega) (by rw [← g36_2, zk_up_eq, zr_pcs_m (n := sz - pc1 w_) (k := sz - (pc1 w_ + 1)) (le := bl9) (di := bd9) (by omega) hse (by omega) (by omega), List.append_assoc]; rfl) (by rw [zk_up_eq]; exact zr_hpush g36_3) (fun i h9 => by rw [zk_up_ne h9]; exact g36_4 i h9) (zr_sep_up g36_5 (by omega)) (zr_sep_up g36_6 (by omega)) (zr_sep_up g36_7 (by omega)) (by omega) hP hS (lv_sub hl [3, 4, 0] rfl)
                      · skip
                        refine lv_iconst (v := (nI 1)) hx hb dX5_make_125 (by decide +kernel) ?_
                        refine lv_goto (tgt := 130) hx hb dX5_make_126 (by decide) ?_
                        refine lv_iload_n hx hb dX5_make_130 rfl (lv_at hl 0 rfl) ?_
                        refine zk_if_ne (tgt := 138) hx hb (by omega) dX5_make_131 (by decide) (fun c_25 => absurd c_25 (by omega)) (fun c_25 => ?_)
                        refine lv_iconst (v := (nI 0)) hx hb dX5_make_134 (by decide +kernel) ?_
                        refine lv_goto (tgt := 140) hx hb dX5_make_135 (by decide) ?_
                        refine zk_wrV (As := [.int (nI w_), .int (nI pp), .int (nI 1), .int (nI 0)]) (rest := []) ⟨hx, hb, hml, hown, hts⟩ hN (c_lay4 l D cI cZ cR m_ tw sp dp mb sz ah mi mp m1 m2 m3 mc ml bl8 bd8 rp pc1 R1 R2 R3 w_ pp 1 0 (by omega) (by omega)) (cwV 4 hts gX5_make_X5_lay_ rfl rfl rfl (by decide +kernel) ⟨Nat.le_of_ble_eq_true rfl, Nat.le_of_ble_eq_true rfl⟩) hK hP (zk_D hD rfl) hS hA [0, 3, 4, 5, 6] rfl (by decide) (fun _ => rfl) rfl rfl rfl rfl hl.1 rfl (Nat.le_of_ble_eq_true rfl) dX5_make_140 ⟨Nat.zero_le _, Nat.zero_le _⟩ (fun u H locs hu4 hP hS => ?_)
                        have hP : va_P D vwCl [(m_, .inr (5, [.int (nI tw), .int (nI sp), .int (nI dp), .ref mb, .int (nI sz), .int (nI ah), .ref mi, .ref mp, .ref m1, .ref m2, .ref m3, .ref mc, .ref ml, .int (nI bl8), .int (nI bd8), .int (nI rp)])), (mb, zk_a cI 360 B), (mi, zk_a cZ 4 (zk_up im w_ 1)), (mp, zk_a cI 4 (zk_up pc1 w_ (pc1 w_ + 1))), (m1, zk_a cI 1200 (zk_up R1 (300 * w_ + pc1 w_) pp)), (m2, zk_a cI 1200 (zk_up R2 (300 * w_ + pc1 w_) 1)), (m3, zk_a cI 1200 (zk_up R3 (300 * w_ + pc1 w_) 0)), (mc, zk_a cI 301 C), (ml, zk_a cI 41 L)] H := hP
                        refine lv_iload_n hx hb dX5_make_143 rfl (lv_at hl 4 rfl) ?_
                        refine lv_iload_n hx hb dX5_make_144 rfl (lv_at hl 0 rfl) ?_
                        refine zk_if_ne (tgt := 152) hx hb (by omega) dX5_make_145 (by decide) (fun c_26 => absurd c_26 (by omega)) (fun c_26 => ?_)
                        refine lv_iconst (v := (nI 1)) hx hb dX5_make_148 (by decide +kernel) ?_
                        refine lv_goto (tgt := 153) hx hb dX5_make_149 (by decide) ?_
                        refine zk_add (v := pp + 1) hx hb (rfl) dX5_make_153 ?_
                        refine lv_istore_n (lv' := [(2, .int (nI (pp + 1))), (3, .int (nI bl9)), (4, .int (nI bd9)), (0, .ref m_), (1, .int (nI w_))]) hx hb dX5_make_154 rfl hl (by decide) rfl (fun ls hl => ?_)
                        refine lv_goto (tgt := 36) hx hb dX5_make_155 (by decide) ?_
                        exact ih36 (pp + 1) (zk_up pc1 w_ (pc1 w_ + 1)) (zk_up R1 (300 * w_ + pc1 w_) pp) (zk_up R2 (300 * w_ + pc1 w_) 1) (zk_up R3 (300 * w_ + pc1 w_) 0) bl8 bd8 (P ++ [(pp, 1, 0)]) ls _ _ (by omega) (by rw [zk_up_eq]; omega) (by rw [← g36_2, zk_up_eq, zr_pcs_l (n := sz - pc1 w_) (k := sz - (pc1 w_ + 1)) (le := bl9) (di := bd9) (by omega) hse (by omega) (by omega), List.append_assoc]; rfl) (by rw [zk_up_eq]; exact zr_hpush g36_3) (fun i h9 => by rw [zk_up_ne h9]; exact g36_4 i h9) (zr_sep_up g36_5 (by omega)) (zr_sep_up g36_6 (by omega)) (zr_sep_up g36_7 (by omega)) (by omega) hP hS (lv_sub hl [3, 4, 0] rfl)
                    · skip
                      have hse : (zr_sel w_ (zr_v B ah) ah sz sp dp (fun _ => 0) (fun _ => 0)) pp = (0, 0) := by rw [hs2, if_pos (by show bl9 < bl8; omega)]
                      refine lv_iconst (v := (nI 0)) hx hb dX5_make_112 (by decide +kernel) ?_
                      refine lv_goto (tgt := 117) hx hb dX5_make_113 (by decide) ?_
                      refine lv_istore_n (lv' := [(3, .int (nI 0)), (4, .int (nI bd9)), (0, .ref m_), (1, .int (nI w_)), (2, .int (nI pp))]) hx hb dX5_make_117 rfl hl (by decide) rfl (fun ls hl => ?_)
                      refine lv_aload_n hx hb dX5_make_118 rfl (lv_at hl 2 rfl) ?_
                      refine lv_iload_n hx hb dX5_make_119 rfl (lv_at hl 3 rfl) ?_
                      refine lv_iload_n hx hb dX5_make_120 rfl (lv_at hl 4 rfl) ?_
                      refine lv_iload_n hx hb dX5_make_121 rfl (lv_at hl 0 rfl) ?_
                      refine zk_if_ne (tgt := 129) hx hb (by omega) dX5_make_122 (by decide) (fun c_27 => absurd c_27 (by omega)) (fun c_27 => ?_)
                      refine lv_iconst (v := (nI 1)) hx hb dX5_make_125 (by decide +kernel) ?_
                      refine lv_goto (tgt := 130) hx hb dX5_make_126 (by decide) ?_
                      refine lv_iload_n hx hb dX5_make_130 rfl (lv_at hl 0 rfl) ?_
                      refine zk_if_ne (tgt := 138) hx hb (by omega) dX5_make_131 (by decide) (fun c_28 => absurd c_28 (by omega)) (fun c_28 => ?_)
                      refine lv_iconst (v := (nI 0)) hx hb dX5_make_134 (by decide +kernel) ?_
                      refine lv_goto (tgt := 140) hx hb dX5_make_135 (by decide) ?_
                      refine zk_wrV (As := [.int (nI w_), .int (nI pp), .int (nI 1), .int (nI 0)]) (rest := []) ⟨hx, hb, hml, hown, hts⟩ hN (c_lay4 l D cI cZ cR m_ tw sp dp mb sz ah mi mp m1 m2 m3 mc ml bl8 bd8 rp pc1 R1 R2 R3 w_ pp 1 0 (by omega) (by omega)) (cwV 4 hts gX5_make_X5_lay_ rfl rfl rfl (by decide +kernel) ⟨Nat.le_of_ble_eq_true rfl, Nat.le_of_ble_eq_true rfl⟩) hK hP (zk_D hD rfl) hS hA [0, 3, 4, 5, 6] rfl (by decide) (fun _ => rfl) rfl rfl rfl rfl hl.1 rfl (Nat.le_of_ble_eq_true rfl) dX5_make_140 ⟨Nat.zero_le _, Nat.zero_le _⟩ (fun u H locs hu4 hP hS => ?_)
                      have hP : va_P D vwCl [(m_, .inr (5, [.int (nI tw), .int (nI sp), .int (nI dp), .ref mb, .int (nI sz), .int (nI ah), .ref mi, .ref mp, .ref m1, .ref m2, .ref m3, .ref mc, .ref ml, .int (nI bl8), .int (nI bd8), .int (nI rp)])), (mb, zk_a cI 360 B), (mi, zk_a cZ 4 (zk_up im w_ 1)), (mp, zk_a cI 4 (zk_up pc1 w_ (pc1 w_ + 1))), (m1, zk_a cI 1200 (zk_up R1 (300 * w_ + pc1 w_) pp)), (m2, zk_a cI 1200 (zk_up R2 (300 * w_ + pc1 w_) 1)), (m3, zk_a cI 1200 (zk_up R3 (300 * w_ + pc1 w_) 0)), (mc, zk_a cI 301 C), (ml, zk_a cI 41 L)] H := hP
                      refine lv_iload_n hx hb dX5_make_143 rfl (lv_at hl 4 rfl) ?_
                      refine lv_iload_n hx hb dX5_make_144 rfl (lv_at hl 0 rfl) ?_
                      refine zk_if_ne (tgt := 152) hx hb (by omega) dX5_make_145 (by decide) (fun c_29 => absurd c_29 (by omega)) (fun c_29 => ?_)
                      refine lv_iconst (v := (nI 1)) hx hb dX5_make_148 (by decide +kernel) ?_
                      refine lv_goto (tgt := 153) hx hb dX5_make_149 (by decide) ?_
                      refine zk_add (v := pp + 1) hx hb (rfl) dX5_make_153 ?_
                      refine lv_istore_n (lv' := [(2, .int (nI (pp + 1))), (3, .int (nI 0)), (4, .int (nI bd9)), (0, .ref m_), (1, .int (nI w_))]) hx hb dX5_make_154 rfl hl (by decide) rfl (fun ls hl => ?_)
                      refine lv_goto (tgt := 36) hx hb dX5_make_155 (by decide) ?_
                      exact ih36 (pp + 1) (zk_up pc1 w_ (pc1 w_ + 1)) (zk_up R1 (300 * w_ + pc1 w_) pp) (zk_up R2 (300 * w_ + pc1 w_) 1) (zk_up R3 (300 * w_ + pc1 w_) 0) bl8 bd8 (P ++ [(pp, 1, 0)]) ls _ _ (by omega) (by rw [zk_up_eq]; omega) (by rw [← g36_2, zk_up_eq, zr_pcs_l (n := sz - pc1 w_) (k := sz - (pc1 w_ + 1)) (le := 0) (di := 0) (by omega) hse (by omega) (by omega), List.append_assoc]; rfl) (by rw [zk_up_eq]; exact zr_hpush g36_3) (fun i h9 => by rw [zk_up_ne h9]; exact g36_4 i h9) (zr_sep_up g36_5 (by omega)) (zr_sep_up g36_6 (by omega)) (zr_sep_up g36_7 (by omega)) (by omega) hP hS (lv_sub hl [3, 4, 0] rfl)
            · skip
              refine lv_aload_n hx hb dX5_make_51 rfl (lv_at hl 0 rfl) ?_
              refine va_get (D := D) (ci := 5) (v := .int (nI dp)) (C := RX5) (T := TX5) (N := 16) hx hb hts ziX5_make_5 hown hK hP 0 rfl rfl 2 (by decide) f39 (fun _ h9 => h9) rfl dX5_make_52 ?_
              refine lv_goto (tgt := 61) hx hb dX5_make_55 (by decide) ?_
              refine zk_wrV (As := [.int (nI pp), .int (nI dp)]) (rest := []) ⟨hx, hb, hml, hown, hts⟩ hN (c_find l D cI cZ cR m_ tw sp dp mb sz ah mi mp m1 m2 m3 mc ml bl1 bd1 rp B pp dp (by omega) (by omega) (by omega) (by omega) (by omega) h4) (cwV 2 hts gX5_make_X5_find rfl rfl rfl (by decide +kernel) ⟨Nat.le_of_ble_eq_true rfl, Nat.le_of_ble_eq_true rfl⟩) hK hP (zk_D hD rfl) hS hA [0, 1] rfl (by decide) (fun _ => rfl) rfl rfl rfl rfl hl.1 rfl (Nat.le_of_ble_eq_true rfl) dX5_make_61 ⟨Nat.zero_le _, Nat.zero_le _⟩ (fun u H locs hu hP hS => ?_)
              obtain ⟨bl9, bd9⟩ := u
              have hu : zr_ch (zr_lg (zr_v B ah) ah sz pp) dp sp 1 0 0 0 = (bl9, bd9) := hu
              have hP : va_P D vwCl [(m_, .inr (5, [.int (nI tw), .int (nI sp), .int (nI dp), .ref mb, .int (nI sz), .int (nI ah), .ref mi, .ref mp, .ref m1, .ref m2, .ref m3, .ref mc, .ref ml, .int (nI bl9), .int (nI bd9), .int (nI rp)])), (mb, zk_a cI 360 B), (mi, zk_a cZ 4 (zk_up im w_ 1)), (mp, zk_a cI 4 pc1), (m1, zk_a cI 1200 R1), (m2, zk_a cI 1200 R2), (m3, zk_a cI 1200 R3), (mc, zk_a cI 301 C), (ml, zk_a cI 41 L)] H := hP
              have hz := zr_ch_03' hu
              have hle0 := zr_ch_le hu (by omega)
              rw [zr_find1] at hu
              have hle : bl9 = 0 ∨ bl9 ≤ min 40 (sz - pp) := by omega
              refine lv_aload_n hx hb dX5_make_64 rfl (lv_at hl 0 rfl) ?_
              refine va_get (D := D) (ci := 5) (v := .int (nI bl9)) (C := RX5) (T := TX5) (N := 16) hx hb hts ziX5_make_5 hown hK hP 0 rfl rfl 13 (by decide) f63 (fun _ h9 => h9) rfl dX5_make_65 ?_
              refine lv_istore_n (lv' := [(3, .int (nI bl9)), (0, .ref m_), (1, .int (nI w_)), (2, .int (nI pp))]) hx hb dX5_make_68 rfl hl (by decide) rfl (fun ls hl => ?_)
              refine lv_aload_n hx hb dX5_make_69 rfl (lv_at hl 1 rfl) ?_
              refine va_get (D := D) (ci := 5) (v := .int (nI bd9)) (C := RX5) (T := TX5) (N := 16) hx hb hts ziX5_make_5 hown hK hP 0 rfl rfl 14 (by decide) f66 (fun _ h9 => h9) rfl dX5_make_70 ?_
              refine lv_istore (lv' := [(4, .int (nI bd9)), (3, .int (nI bl9)), (0, .ref m_), (1, .int (nI w_)), (2, .int (nI pp))]) hx hb dX5_make_73 hl (by decide) rfl (fun ls hl => ?_)
              refine lv_iload_n hx hb dX5_make_75 rfl (lv_at hl 3 rfl) ?_
              refine lv_iconst (v := (nI 2)) hx hb dX5_make_76 (by decide +kernel) ?_
              refine zk_icmp_ne (tgt := 118) hx hb (by omega) (by omega) dX5_make_77 (by decide) (fun c_30 => ?_) (fun c_30 => ?_)
              · skip
                have hse : (zr_sel w_ (zr_v B ah) ah sz sp dp (fun _ => 0) (fun _ => 0)) pp = (bl9, bd9) := zr_sel_1 c_4 hu
                refine lv_aload_n hx hb dX5_make_118 rfl (lv_at hl 2 rfl) ?_
                refine lv_iload_n hx hb dX5_make_119 rfl (lv_at hl 3 rfl) ?_
                refine lv_iload_n hx hb dX5_make_120 rfl (lv_at hl 4 rfl) ?_
                refine lv_iload_n hx hb dX5_make_121 rfl (lv_at hl 1 rfl) ?_
                refine zk_if_ne (tgt := 129) hx hb (by omega) dX5_make_122 (by decide) (fun c_31 => ?_) (fun c_31 => ?_)
                · skip
                  refine lv_iload_n hx hb dX5_make_129 rfl (lv_at hl 1 rfl) ?_
                  refine lv_iload_n hx hb dX5_make_130 rfl (lv_at hl 1 rfl) ?_
                  refine zk_if_ne (tgt := 138) hx hb (by omega) dX5_make_131 (by decide) (fun c_32 => ?_) (fun c_32 => absurd c_32 (by omega))
                  refine lv_iload hx hb dX5_make_138 (lv_at hl 0 rfl) ?_
                  refine zk_wrV (As := [.int (nI w_), .int (nI pp), .int (nI bl9), .int (nI bd9)]) (rest := []) ⟨hx, hb, hml, hown, hts⟩ hN (c_lay4 l D cI cZ cR m_ tw sp dp mb sz ah mi mp m1 m2 m3 mc ml bl9 bd9 rp pc1 R1 R2 R3 w_ pp bl9 bd9 (by omega) (by omega)) (cwV 4 hts gX5_make_X5_lay_ rfl rfl rfl (by decide +kernel) ⟨Nat.le_of_ble_eq_true rfl, Nat.le_of_ble_eq_true rfl⟩) hK hP (zk_D hD rfl) hS hA [0, 3, 4, 5, 6] rfl (by decide) (fun _ => rfl) rfl rfl rfl rfl hl.1 rfl (Nat.le_of_ble_eq_true rfl) dX5_make_140 ⟨Nat.zero_le _, Nat.zero_le _⟩ (fun u H locs hu4 hP hS => ?_)
                  have hP : va_P D vwCl [(m_, .inr (5, [.int (nI tw), .int (nI sp), .int (nI dp), .ref mb, .int (nI sz), .int (nI ah), .ref mi, .ref mp, .ref m1, .ref m2, .ref m3, .ref mc, .ref ml, .int (nI bl9), .int (nI bd9), .int (nI rp)])), (mb, zk_a cI 360 B), (mi, zk_a cZ 4 (zk_up im w_ 1)), (mp, zk_a cI 4 (zk_up pc1 w_ (pc1 w_ + 1))), (m1, zk_a cI 1200 (zk_up R1 (300 * w_ + pc1 w_) pp)), (m2, zk_a cI 1200 (zk_up R2 (300 * w_ + pc1 w_) bl9)), (m3, zk_a cI 1200 (zk_up R3 (300 * w_ + pc1 w_) bd9)), (mc, zk_a cI 301 C), (ml, zk_a cI 41 L)] H := hP
                  refine lv_iload_n hx hb dX5_make_143 rfl (lv_at hl 4 rfl) ?_
                  refine lv_iload_n hx hb dX5_make_144 rfl (lv_at hl 1 rfl) ?_
                  refine zk_if_ne (tgt := 152) hx hb (by omega) dX5_make_145 (by decide) (fun c_33 => ?_) (fun c_33 => absurd c_33 (by omega))
                  refine lv_iload_n hx hb dX5_make_152 rfl (lv_at hl 1 rfl) ?_
                  refine zk_add (v := pp + bl9) hx hb (rfl) dX5_make_153 ?_
                  refine lv_istore_n (lv' := [(2, .int (nI (pp + bl9))), (4, .int (nI bd9)), (3, .int (nI bl9)), (0, .ref m_), (1, .int (nI w_))]) hx hb dX5_make_154 rfl hl (by decide) rfl (fun ls hl => ?_)
                  refine lv_goto (tgt := 36) hx hb dX5_make_155 (by decide) ?_
                  exact ih36 (pp + bl9) (zk_up pc1 w_ (pc1 w_ + 1)) (zk_up R1 (300 * w_ + pc1 w_) pp) (zk_up R2 (300 * w_ + pc1 w_) bl9) (zk_up R3 (300 * w_ + pc1 w_) bd9) bl9 bd9 (P ++ [(pp, bl9, bd9)]) ls _ _ (by omega) (by rw [zk_up_eq]; omega) (by rw [← g36_2, zk_up_eq, zr_pcs_m (n := sz - pc1 w_) (k := sz - (pc1 w_ + 1)) (le := bl9) (di := bd9) (by omega) hse (by omega) (by omega), List.append_assoc]; rfl) (by rw [zk_up_eq]; exact zr_hpush g36_3) (fun i h9 => by rw [zk_up_ne h9]; exact g36_4 i h9) (zr_sep_up g36_5 (by omega)) (zr_sep_up g36_6 (by omega)) (zr_sep_up g36_7 (by omega)) (by omega) hP hS (lv_sub hl [3, 4, 0] rfl)
                · skip
                  refine lv_iconst (v := (nI 1)) hx hb dX5_make_125 (by decide +kernel) ?_
                  refine lv_goto (tgt := 130) hx hb dX5_make_126 (by decide) ?_
                  refine lv_iload_n hx hb dX5_make_130 rfl (lv_at hl 1 rfl) ?_
                  refine zk_if_ne (tgt := 138) hx hb (by omega) dX5_make_131 (by decide) (fun c_34 => absurd c_34 (by omega)) (fun c_34 => ?_)
                  refine lv_iconst (v := (nI 0)) hx hb dX5_make_134 (by decide +kernel) ?_
                  refine lv_goto (tgt := 140) hx hb dX5_make_135 (by decide) ?_
                  refine zk_wrV (As := [.int (nI w_), .int (nI pp), .int (nI 1), .int (nI 0)]) (rest := []) ⟨hx, hb, hml, hown, hts⟩ hN (c_lay4 l D cI cZ cR m_ tw sp dp mb sz ah mi mp m1 m2 m3 mc ml bl9 bd9 rp pc1 R1 R2 R3 w_ pp 1 0 (by omega) (by omega)) (cwV 4 hts gX5_make_X5_lay_ rfl rfl rfl (by decide +kernel) ⟨Nat.le_of_ble_eq_true rfl, Nat.le_of_ble_eq_true rfl⟩) hK hP (zk_D hD rfl) hS hA [0, 3, 4, 5, 6] rfl (by decide) (fun _ => rfl) rfl rfl rfl rfl hl.1 rfl (Nat.le_of_ble_eq_true rfl) dX5_make_140 ⟨Nat.zero_le _, Nat.zero_le _⟩ (fun u H locs hu4 hP hS => ?_)
                  have hP : va_P D vwCl [(m_, .inr (5, [.int (nI tw), .int (nI sp), .int (nI dp), .ref mb, .int (nI sz), .int (nI ah), .ref mi, .ref mp, .ref m1, .ref m2, .ref m3, .ref mc, .ref ml, .int (nI bl9), .int (nI bd9), .int (nI rp)])), (mb, zk_a cI 360 B), (mi, zk_a cZ 4 (zk_up im w_ 1)), (mp, zk_a cI 4 (zk_up pc1 w_ (pc1 w_ + 1))), (m1, zk_a cI 1200 (zk_up R1 (300 * w_ + pc1 w_) pp)), (m2, zk_a cI 1200 (zk_up R2 (300 * w_ + pc1 w_) 1)), (m3, zk_a cI 1200 (zk_up R3 (300 * w_ + pc1 w_) 0)), (mc, zk_a cI 301 C), (ml, zk_a cI 41 L)] H := hP
                  refine lv_iload_n hx hb dX5_make_143 rfl (lv_at hl 4 rfl) ?_
                  refine lv_iload_n hx hb dX5_make_144 rfl (lv_at hl 1 rfl) ?_
                  refine zk_if_ne (tgt := 152) hx hb (by omega) dX5_make_145 (by decide) (fun c_35 => absurd c_35 (by omega)) (fun c_35 => ?_)
                  refine lv_iconst (v := (nI 1)) hx hb dX5_make_148 (by decide +kernel) ?_
                  refine lv_goto (tgt := 153) hx hb dX5_make_149 (by decide) ?_
                  refine zk_add (v := pp + 1) hx hb (rfl) dX5_make_153 ?_
                  refine lv_istore_n (lv' := [(2, .int (nI (pp + 1))), (4, .int (nI bd9)), (3, .int (nI bl9)), (0, .ref m_), (1, .int (nI w_))]) hx hb dX5_make_154 rfl hl (by decide) rfl (fun ls hl => ?_)
                  refine lv_goto (tgt := 36) hx hb dX5_make_155 (by decide) ?_
                  exact ih36 (pp + 1) (zk_up pc1 w_ (pc1 w_ + 1)) (zk_up R1 (300 * w_ + pc1 w_) pp) (zk_up R2 (300 * w_ + pc1 w_) 1) (zk_up R3 (300 * w_ + pc1 w_) 0) bl9 bd9 (P ++ [(pp, 1, 0)]) ls _ _ (by omega) (by rw [zk_up_eq]; omega) (by rw [← g36_2, zk_up_eq, zr_pcs_l (n := sz - pc1 w_) (k := sz - (pc1 w_ + 1)) (le := bl9) (di := bd9) (by omega) hse (by omega) (by omega), List.append_assoc]; rfl) (by rw [zk_up_eq]; exact zr_hpush g36_3) (fun i h9 => by rw [zk_up_ne h9]; exact g36_4 i h9) (zr_sep_up g36_5 (by omega)) (zr_sep_up g36_6 (by omega)) (zr_sep_up g36_7 (by omega)) (by omega) hP hS (lv_sub hl [3, 4, 0] rfl)
              · skip
                omega
      exact L36 (sz - 0 + 1) 0 (zk_up pc w_ 0) P1 P2 P3 bl bd ([]) ls _ _ (by omega) (by rw [zk_up_eq]; omega) (by rw [zk_up_eq]; rfl) (by rw [zk_up_eq]; exact zr_holds_0) (fun i h9 => zk_up_ne h9) (zr_sep_rf _ _) (zr_sep_rf _ _) (zr_sep_rf _ _) (by omega) hP hS (lv_sub hl [1, 2, 0] rfl)
    · skip
      subst c_2
      refine lv_aload_n hx hb dX5_make_29 rfl (lv_at hl 0 rfl) ?_
      refine zk_wrV (As := []) (rest := []) ⟨hx, hb, hml, hown, hts⟩ hN (c_makeLeast l D cI cZ cR m_ tw sp dp mb sz ah mi mp m1 m2 m3 mc ml bl bd rp B (zk_up pc 3 0) P1 P2 P3 C L (by omega) (by omega) (by omega) h4 (zk_up_eq _ _ _)) (cwV 0 hts gX5_make_X5_makeLeast rfl rfl rfl (by decide +kernel) ⟨Nat.le_of_ble_eq_true rfl, Nat.le_of_ble_eq_true rfl⟩) hK hP (zk_D hD rfl) hS hA [0, 1, 3, 4, 5, 6, 7, 8] rfl (by decide) (fun _ => rfl) rfl rfl rfl rfl hl.1 rfl (Nat.le_of_ble_eq_true rfl) dX5_make_30 ⟨Nat.zero_le _, Nat.zero_le _⟩ (fun u H locs hu hP hS => ?_)
      obtain ⟨pc9, R1, R2, R3, C9, L9⟩ := u
      have hu : zr_mrow 3 (zr_v B ah) ah sz sp dp (pc9 3) R1 R2 R3 ∧ (∀ i, i ≠ 3 → pc9 i = (zk_up pc 3 0) i) ∧ zr_sep 3 P1 R1 ∧ zr_sep 3 P2 R2 ∧ zr_sep 3 P3 R3 := hu
      have hP : va_P D vwCl [(m_, .inr (5, [.int (nI tw), .int (nI sp), .int (nI dp), .ref mb, .int (nI sz), .int (nI ah), .ref mi, .ref mp, .ref m1, .ref m2, .ref m3, .ref mc, .ref ml, .int (nI bl), .int (nI bd), .int (nI rp)])), (mb, zk_a cI 360 B), (mi, zk_a cZ 4 (zk_up im 3 1)), (mp, zk_a cI 4 pc9), (m1, zk_a cI 1200 R1), (m2, zk_a cI 1200 R2), (m3, zk_a cI 1200 R3), (mc, zk_a cI 301 C9), (ml, zk_a cI 41 L9)] H := hP
      exact hret _ ls _ _ (zk_up im 3 1, pc9, R1, R2, R3, C9, L9, bl, bd) dX5_make_33 ⟨zr_mrows_mk h1 h5 hu.1 (fun i h9 => by rw [hu.2.1 i h9, zk_up_ne h9]) hu.2.2.1 hu.2.2.2.1 hu.2.2.2.2, zk_up_eq _ _ _⟩ hP hS
  · skip
    have him1 : im w_ = 1 := by omega
    exact hret _ ls _ _ (im, pc, P1, P2, P3, C, L, bl, bd) dX5_make_9 ⟨h5, him1⟩ hP hS
