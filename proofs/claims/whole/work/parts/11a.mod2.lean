/-! The reference's search over all distances up to the span gives what the class's gives. -/
theorem zr_lg_in {g : Nat → Nat} {ah sz q d : Nat} (hd : d ≤ ah + q) : zr_lg g ah sz q d = if zr_reach g (ah + q) (ah + q - d) (min 40 (sz - q)) < 3 then 0 else zr_reach g (ah + q) (ah + q - d) (min 40 (sz - q)) := by
  rw [zr_lg, if_neg (by omega)]
theorem zr_lg_out {g : Nat → Nat} {ah sz q d : Nat} (hd : ah + q < d) : zr_lg g ah sz q d = 0 := by rw [zr_lg, if_pos hd]
theorem zr_ch_lg (g : Nat → Nat) (ah sz q dp : Nat) : ∀ (n d se le di : Nat), 1 ≤ d → zr_ch (zr_lg g ah sz q) dp n d se le di = zr_ch (fun d => zr_reach g (ah + q) (ah + q - d) (min 40 (sz - q))) dp (min n (ah + q + 1 - d)) d se le di
  | 0, d, se, le, di, _ => by rw [zr_ch_0 rfl, zr_ch_0 (by omega)]
  | n + 1, d, se, le, di, h1 => by
    by_cases hd : d ≤ ah + q
    · rw [show min (n + 1) (ah + q + 1 - d) = min n (ah + q + 1 - (d + 1)) + 1 by omega]
      rw [zr_ch, zr_ch, zr_lg_in hd]
      by_cases hs : se < dp
      · rw [if_pos hs, if_pos hs]
        by_cases h3 : zr_reach g (ah + q) (ah + q - d) (min 40 (sz - q)) < 3
        · rw [if_pos h3, if_neg (show ¬ 3 ≤ 0 by omega), if_neg (show ¬ 3 ≤ zr_reach g (ah + q) (ah + q - d) (min 40 (sz - q)) by omega)]
          exact zr_ch_lg g ah sz q dp n (d + 1) se le di (by omega)
        · rw [if_neg h3, if_pos (show 3 ≤ zr_reach g (ah + q) (ah + q - d) (min 40 (sz - q)) by omega), if_pos (show 3 ≤ zr_reach g (ah + q) (ah + q - d) (min 40 (sz - q)) by omega)]
          rw [zr_ch_lg g ah sz q dp n (d + 1) (se + 1) le di (by omega), zr_ch_lg g ah sz q dp n (d + 1) (se + 1) _ d (by omega)]
      · rw [if_neg hs, if_neg hs]
    · rw [zr_ch_0 (n := min (n + 1) (ah + q + 1 - d)) (by omega), zr_ch, zr_lg_out (by omega), if_neg (show ¬ 3 ≤ 0 by omega)]
      by_cases hs : se < dp
      · rw [if_pos hs, zr_ch_lg g ah sz q dp n (d + 1) se le di (by omega), zr_ch_0 (by omega)]
      · rw [if_neg hs]
theorem zr_find1 (g : Nat → Nat) (ah sz sp dp q : Nat) : zr_ch (zr_lg g ah sz q) dp sp 1 0 0 0 = zr_s1 g ah sz sp dp q := by
  rw [zr_ch_lg g ah sz q dp sp 1 0 0 0 (by omega), zr_s1, show ah + q + 1 - 1 = ah + q by omega]
def zr_lastd (F : List (Nat × Nat)) (x : Nat × Nat) : Nat × Nat := match F.getLast? with
  | none => x
  | some y => y
theorem zr_lastd_c (a : Nat × Nat) (F : List (Nat × Nat)) (x : Nat × Nat) : zr_lastd (a :: F) x = zr_lastd F a := by
  unfold zr_lastd
  cases F with
  | nil => rfl
  | cons b F => rw [List.getLast?_cons_cons]; rw [List.getLast?_eq_some_getLast (List.cons_ne_nil b F)]
theorem zr_ch_fr {Rr : Nat → Nat} {mo dp : Nat} (hR : ∀ d, Rr d ≤ mo) : ∀ (n d se le di be : Nat), se + n < dp → (le = 0 ∧ be = 2) ∨ (3 ≤ le ∧ be = le) → zr_ch Rr dp n d se le di = zr_lastd (zr_fr Rr mo n d be) (le, di)
  | 0, d, se, le, di, be, _, _ => rfl
  | n + 1, d, se, le, di, be, hs, hb => by
    have hm := hR d
    rw [zr_ch, if_pos (by omega)]
    by_cases h3 : 3 ≤ Rr d
    · rw [if_pos h3]
      by_cases hl : le < Rr d
      · rw [if_pos hl, zr_fr_take (n := n + 1) (k := n) (r := Rr d) (by omega) rfl (by omega) rfl, zr_lastd_c]
        exact zr_ch_fr hR n (d + 1) (se + 1) (Rr d) d (Rr d) (by omega) (Or.inr ⟨h3, rfl⟩)
      · rw [if_neg hl, zr_ch_fr hR n (d + 1) (se + 1) le di be (by omega) hb]
        by_cases hbm : be < mo
        · rw [zr_fr_skip (n := n + 1) (k := n) (r := Rr d) hbm rfl (by omega) rfl]
        · rw [zr_fr_big (n := n) (by omega), zr_fr_big (n := n + 1) (by omega)]
    · rw [if_neg h3, zr_ch_fr hR n (d + 1) se le di be (by omega) hb]
      by_cases hbm : be < mo
      · rw [zr_fr_skip (n := n + 1) (k := n) (r := Rr d) hbm rfl (by omega) rfl]
      · rw [zr_fr_big (n := n) (by omega), zr_fr_big (n := n + 1) (by omega)]
theorem zr_find0 {g : Nat → Nat} {ah sz sp q : Nat} (hs : sp ≤ 300) : zr_ch (zr_lg g ah sz q) 301 sp 1 0 0 0 = zr_s0 g ah sz sp q := by
  rw [zr_ch_lg g ah sz q 301 sp 1 0 0 0 (by omega), show ah + q + 1 - 1 = ah + q by omega]
  rw [zr_ch_fr (mo := min 40 (sz - q)) (fun d => zr_reach_le g _ _ _) (min sp (ah + q)) 1 0 0 0 2 (by omega) (Or.inl ⟨rfl, rfl⟩)]
  rfl
/-- the least distance from d on that reaches so far -/
def zr_lm (Rr : Nat → Nat) : Nat → Nat → Nat → Nat
  | 0, _, _ => 0
  | n + 1, d, l => if l ≤ Rr d then d else zr_lm Rr n (d + 1) l
theorem zr_lm_no {Rr : Nat → Nat} : ∀ (n d l : Nat), (∀ i, Rr i < l) → zr_lm Rr n d l = 0
  | 0, _, _, _ => rfl
  | n + 1, d, l, h => by
    have h1 := h d
    rw [zr_lm, if_neg (by omega)]
    exact zr_lm_no n (d + 1) l h
theorem zr_lm_ls (g : Nat → Nat) (ah sz q : Nat) : ∀ (n d l be : Nat), 1 ≤ d → 3 ≤ l → be < l → 2 ≤ be → zr_lm (zr_lg g ah sz q) n d l = zr_ls (zr_fr (fun d => zr_reach g (ah + q) (ah + q - d) (min 40 (sz - q))) (min 40 (sz - q)) (min n (ah + q + 1 - d)) d be) l
  | 0, d, l, be, _, _, _, _ => by rw [zr_fr_0 (by omega)]; rfl
  | n + 1, d, l, be, h1, h3, hb, hb2 => by
    by_cases hd : d ≤ ah + q
    · rw [show min (n + 1) (ah + q + 1 - d) = min n (ah + q + 1 - (d + 1)) + 1 by omega, zr_lm, zr_lg_in hd]
      have hR := zr_reach_le g (min 40 (sz - q)) (ah + q) (ah + q - d)
      by_cases hbm : be < min 40 (sz - q)
      · by_cases hr : be < zr_reach g (ah + q) (ah + q - d) (min 40 (sz - q))
        · rw [zr_fr_take (Rr := fun d => zr_reach g (ah + q) (ah + q - d) (min 40 (sz - q))) (d := d) (n := min n (ah + q + 1 - (d + 1)) + 1) (k := min n (ah + q + 1 - (d + 1))) (r := zr_reach g (ah + q) (ah + q - d) (min 40 (sz - q))) hbm rfl hr rfl, zr_ls]
          rw [if_neg (show ¬ zr_reach g (ah + q) (ah + q - d) (min 40 (sz - q)) < 3 by omega)]
          by_cases hl : l ≤ zr_reach g (ah + q) (ah + q - d) (min 40 (sz - q))
          · rw [if_pos hl, if_pos hl]
          · rw [if_neg hl, if_neg hl]
            exact zr_lm_ls g ah sz q n (d + 1) l _ (by omega) h3 (by omega) (by omega)
        · rw [zr_fr_skip (Rr := fun d => zr_reach g (ah + q) (ah + q - d) (min 40 (sz - q))) (d := d) (n := min n (ah + q + 1 - (d + 1)) + 1) (k := min n (ah + q + 1 - (d + 1))) (r := zr_reach g (ah + q) (ah + q - d) (min 40 (sz - q))) hbm rfl (by omega) rfl]
          rw [if_neg (show ¬ l ≤ (if zr_reach g (ah + q) (ah + q - d) (min 40 (sz - q)) < 3 then 0 else zr_reach g (ah + q) (ah + q - d) (min 40 (sz - q))) by split <;> omega)]
          exact zr_lm_ls g ah sz q n (d + 1) l be (by omega) h3 hb hb2
      · rw [zr_fr_big (by omega), if_neg (show ¬ l ≤ (if zr_reach g (ah + q) (ah + q - d) (min 40 (sz - q)) < 3 then 0 else zr_reach g (ah + q) (ah + q - d) (min 40 (sz - q))) by split <;> omega)]
        exact zr_lm_no n (d + 1) l (fun i => by have h9 := zr_lg_le g ah sz q i; omega)
    · rw [zr_fr_0 (n := min (n + 1) (ah + q + 1 - d)) (by omega), zr_lm, zr_lg_out (by omega), if_neg (by omega), zr_lm_ls g ah sz q n (d + 1) l be (by omega) h3 hb hb2, zr_fr_0 (by omega)]
theorem zr_lm_F {g : Nat → Nat} {ah sz sp q l : Nat} (h3 : 3 ≤ l) : zr_lm (zr_lg g ah sz q) sp 1 l = zr_ls (zr_Fp g ah sz sp q) l := by
  rw [zr_lm_ls g ah sz q sp 1 l 2 (by omega) h3 (by omega) (by omega), show ah + q + 1 - 1 = ah + q by omega]
  rfl
theorem zr_lm_s {Rr : Nat → Nat} {n m d l : Nat} (hn : n = m + 1) : zr_lm Rr n d l = if l ≤ Rr d then d else zr_lm Rr m (d + 1) l := by subst hn; rfl
theorem zr_w_z {co : Nat → Nat} {p : Nat} {ls : Nat → Nat} {n k l cs ln ds : Nat} (h : ls l = 0) (hn : n = k + 1) : zr_w co p ls n l cs ln ds = zr_w co p ls k (l + 1) cs ln ds := by
  subst hn
  rw [zr_w, if_neg (by omega)]
theorem zr_w_ls {co : Nat → Nat} {p : Nat} {ls ls' : Nat → Nat} : ∀ (n l cs ln ds : Nat), (∀ i, l ≤ i → i < l + n → ls i = ls' i) → zr_w co p ls n l cs ln ds = zr_w co p ls' n l cs ln ds
  | 0, _, _, _, _, _ => rfl
  | n + 1, l, cs, ln, ds, h => by
    rw [zr_w, zr_w, h l (by omega) (by omega)]
    rw [zr_w_ls n (l + 1) cs ln ds (fun i h1 h2 => h i (by omega) (by omega)), zr_w_ls n (l + 1) _ _ _ (fun i h1 h2 => h i (by omega) (by omega))]
/-- nothing outside a way's places has changed -/
def zr_sep (w : Nat) (P Q : Nat → Nat) : Prop := ∀ j, ¬ (300 * w ≤ j ∧ j < 300 * w + 300) → Q j = P j
theorem zr_sep_rf (w : Nat) (P : Nat → Nat) : zr_sep w P P := fun _ _ => rfl
theorem zr_sep_up {w k x : Nat} {P Q : Nat → Nat} (h : zr_sep w P Q) (hk : k < 300) : zr_sep w P (zk_up Q (300 * w + k) x) := fun j hj => by
  rw [zk_up_ne (by omega)]
  exact h j hj
theorem zr_hpush {L : List (Nat × Nat × Nat)} {P1 P2 P3 : Nat → Nat} {w n q x y : Nat} (h : zr_holds L (fun k => P1 (300 * w + k)) (fun k => P2 (300 * w + k)) (fun k => P3 (300 * w + k)) n) : zr_holds (L ++ [(q, x, y)]) (fun k => zk_up P1 (300 * w + n) q (300 * w + k)) (fun k => zk_up P2 (300 * w + n) x (300 * w + k)) (fun k => zk_up P3 (300 * w + n) y (300 * w + k)) (n + 1) := by
  have e : ∀ (P : Nat → Nat) (z : Nat), (fun k => zk_up P (300 * w + n) z (300 * w + k)) = zk_up (fun k => P (300 * w + k)) n z := fun P z => by
    funext k
    unfold zk_up
    by_cases hk : k = n
    · rw [if_pos hk, if_pos (by omega)]
    · rw [if_neg hk, if_neg (by omega)]
  rw [e, e, e]
  exact zr_holds_push h
theorem zr_mrow_keep {w i : Nat} {g : Nat → Nat} {ah sz sp dp ct : Nat} {P1 P2 P3 Q1 Q2 Q3 : Nat → Nat} (hs : sz ≤ 300) (hi : i ≠ w) (h : zr_mrow i g ah sz sp dp ct P1 P2 P3) (h1 : zr_sep w P1 Q1) (h2 : zr_sep w P2 Q2) (h3 : zr_sep w P3 Q3) : zr_mrow i g ah sz sp dp ct Q1 Q2 Q3 := by
  obtain ⟨sel, a, b, c⟩ := h
  have hl := zr_pcs_len (sel := sel) (sz := sz) sz 0
  refine ⟨sel, a, b, fun k hk => ?_⟩
  rw [b] at hl
  have e : ¬ (300 * w ≤ 300 * i + k ∧ 300 * i + k < 300 * w + 300) := by omega
  rw [c k hk]
  show some (P1 (300 * i + k), P2 (300 * i + k), P3 (300 * i + k)) = some (Q1 (300 * i + k), Q2 (300 * i + k), Q3 (300 * i + k))
  rw [h1 _ e, h2 _ e, h3 _ e]
/-- after a way was made -/
theorem zr_mrows_mk {w : Nat} {g : Nat → Nat} {ah sz sp dp : Nat} {im ct ct2 P1 P2 P3 Q1 Q2 Q3 : Nat → Nat} (hs : sz ≤ 300) (h : zr_mrows g ah sz sp dp im ct P1 P2 P3) (hr : zr_mrow w g ah sz sp dp (ct2 w) Q1 Q2 Q3) (hc : ∀ i, i ≠ w → ct2 i = ct i) (h1 : zr_sep w P1 Q1) (h2 : zr_sep w P2 Q2) (h3 : zr_sep w P3 Q3) : zr_mrows g ah sz sp dp (zk_up im w 1) ct2 Q1 Q2 Q3 := fun i hi => by
  by_cases hw : i = w
  · subst hw
    exact Or.inr ⟨zk_up_eq _ _ _, hr⟩
  · rw [zk_up_ne hw, hc i hw]
    rcases h i hi with h4 | ⟨h4, h5⟩
    · exact Or.inl h4
    · exact Or.inr ⟨h4, zr_mrow_keep hs hw h5 h1 h2 h3⟩
theorem zk_decN {d : Nat} (h : 1 ≤ d) : nI d + Int32.ofInt (-1) = nI (d - 1) := by rw [zk_dec, pk_sub h]
theorem zr_ls_300 {g : Nat → Nat} {ah sz sp q l : Nat} (h : sp ≤ 300) : zr_ls (zr_Fp g ah sz sp q) l ≤ 300 := by
  by_cases h0 : 0 < zr_ls (zr_Fp g ah sz sp q) l
  · obtain ⟨x, h1, h2, h3⟩ := zr_ls_mem _ _ h0
    have h4 := zr_F_mem h1
    rw [h3]
    have h5 := h4.2.2.2.1
    omega
  · omega
theorem zr_ls_sz {g : Nat → Nat} {ah sz sp q l : Nat} (h0 : 0 < zr_ls (zr_Fp g ah sz sp q) l) : l ≤ min 40 (sz - q) := by
  obtain ⟨x, h1, h2, h3⟩ := zr_ls_mem _ _ h0
  have h4 := (zr_F_mem h1).2.1
  omega
theorem zr_ok_dp {g : Nat → Nat} {ah sz sp dp : Nat} {co ln ds : Nat → Nat} (hd : zr_DP (zr_Fp g ah sz sp) sz 0 co ln ds) : zr_ok 3 g ah sz sp dp (fun q => (ln q, ds q)) := by
  rw [zr_ok, if_pos rfl]
  exact ⟨co, hd⟩
def rmX5_findLeast : Room := { frames := 1, cells := 0, slots := 0, locals := 23 }
set_option maxRecDepth 20000 in
theorem ziX5_findLeast_5 : ∀ w ∈ wsX50, w ∈ wsX5_findLeast := by decide +kernel
set_option maxHeartbeats 4000000 in
set_option maxRecDepth 100000 in
/-- findLeast -/
theorem c_findLeast (l : Launch) (D : va_G) (cI cZ cR : ClassId) (m_ : Nat) (tw : Nat) (sp : Nat) (dp : Nat) (mb : Nat) (sz : Nat) (ah : Nat) (mi : Nat) (mp : Nat) (m1 : Nat) (m2 : Nat) (m3 : Nat) (mc : Nat) (ml : Nat) (bl : Nat) (bd : Nat) (rp : Nat) (B : Nat → Nat) (L : Nat → Nat) (p_ : Nat) (h0 : ah ≤ 60) (h1 : sz ≤ 300) (h2 : sp ≤ 300) (h3 : p_ ≤ sz) (h4 : ∀ j, B j < 256) : zk_Wv l yX5_findLeast wsX5_findLeast rmX5_findLeast D (zk_t cI cZ cR) [.ref m_, .int (nI p_)] [(m_, .inr (5, [.int (nI tw), .int (nI sp), .int (nI dp), .ref mb, .int (nI sz), .int (nI ah), .ref mi, .ref mp, .ref m1, .ref m2, .ref m3, .ref mc, .ref ml, .int (nI bl), .int (nI bd), .int (nI rp)])), (mb, zk_a cI 360 B), (ml, zk_a cI 41 L)] (fun (L2 : Nat → Nat) => ∀ j, 3 ≤ j → j ≤ 40 → L2 j = zr_ls (zr_Fp (zr_v B ah) ah sz sp p_) j) (fun L2 => [(m_, .inr (5, [.int (nI tw), .int (nI sp), .int (nI dp), .ref mb, .int (nI sz), .int (nI ah), .ref mi, .ref mp, .ref m1, .ref m2, .ref m3, .ref mc, .ref ml, .int (nI bl), .int (nI bd), .int (nI rp)])), (mb, zk_a cI 360 B), (ml, zk_a cI 41 L2)]) := by
  refine zk_enterV RX5 cX5_findLeast 5 (by decide) rfl rfl (Nat.le_of_ble_eq_true rfl) ?_
  intro p e s m args below meth c ls A Q hx hb hml hown hts hP hK hD hN hl hA hS hret
  have hl : lv_has ls 5 [(0, .ref m_), (1, .int (nI p_))] := hl
  have f32 := hts (.fieldLink RX5 32 "MatchFindersModel" "least" "[I") (by decide +kernel)
  have f35 := hts (.fieldLink RX5 35 "MatchFindersModel" "span" "I") (by decide +kernel)
  refine lv_iconst (v := (nI 0)) hx hb dX5_findLeast_0 (by decide +kernel) ?_
  refine lv_istore_n (lv' := [(2, .int (nI 0)), (0, .ref m_), (1, .int (nI p_))]) hx hb dX5_findLeast_1 rfl hl (by decide) rfl (fun ls hl => ?_)
  have L2 : ∀ (n : Nat) (i : Nat) (L1 : Nat → Nat) (ls : Array Slot) (H : Heap) (locs : List Loc), (i ≤ 41) → (∀ j, j < i → L1 j = 0) → (41 - i) < n → va_P D vwCl [(m_, .inr (5, [.int (nI tw), .int (nI sp), .int (nI dp), .ref mb, .int (nI sz), .int (nI ah), .ref mi, .ref mp, .ref m1, .ref m2, .ref m3, .ref mc, .ref ml, .int (nI bl), .int (nI bd), .int (nI rp)])), (mb, zk_a cI 360 B), (ml, zk_a cI 41 L1)] H → va_S A s.heap H locs → lv_has ls 5 [(0, .ref m_), (1, .int (nI p_)), (2, .int (nI i))] → W p l e rmX5_findLeast s m args below meth c H locs 0 0 Q (F0 m 2 ls []) := by
    intro n
    induction n with
    | zero => intro i L1 ls H locs g2_0 g2_1 hm hP hS hl; exact absurd hm (by omega)
    | succ n ih2 =>
      intro i L1 ls H locs g2_0 g2_1 hm hP hS hl
      refine lv_iload_n hx hb dX5_findLeast_2 rfl (lv_at hl 2 rfl) ?_
      refine lv_bipush (v := (nI 40)) hx hb dX5_findLeast_3 (by decide +kernel) ?_
      refine zk_icmp_gt (tgt := 21) hx hb (by omega) (by omega) dX5_findLeast_5 (by decide) (fun c_1 => ?_) (fun c_1 => ?_)
      · skip
        refine lv_aload_n hx hb dX5_findLeast_21 rfl (lv_at hl 0 rfl) ?_
        refine va_get (D := D) (ci := 5) (v := .int (nI sp)) (C := RX5) (T := TX5) (N := 16) hx hb hts ziX5_findLeast_5 hown hK hP 0 rfl rfl 1 (by decide) f35 (fun _ h9 => h9) rfl dX5_findLeast_22 ?_
        refine lv_istore_n (lv' := [(2, .int (nI sp)), (0, .ref m_), (1, .int (nI p_))]) hx hb dX5_findLeast_25 rfl hl (by decide) rfl (fun ls hl => ?_)
        have L26 : ∀ (n : Nat) (d : Nat) (L3 : Nat → Nat) (ls : Array Slot) (H : Heap) (locs : List Loc), (d ≤ sp) → (∀ j, 3 ≤ j → j ≤ 40 → L3 j = zr_lm (zr_lg (zr_v B ah) ah sz p_) (sp - d) (d + 1) j) → (d) < n → va_P D vwCl [(m_, .inr (5, [.int (nI tw), .int (nI sp), .int (nI dp), .ref mb, .int (nI sz), .int (nI ah), .ref mi, .ref mp, .ref m1, .ref m2, .ref m3, .ref mc, .ref ml, .int (nI bl), .int (nI bd), .int (nI rp)])), (mb, zk_a cI 360 B), (ml, zk_a cI 41 L3)] H → va_S A s.heap H locs → lv_has ls 5 [(0, .ref m_), (1, .int (nI p_)), (2, .int (nI d))] → W p l e rmX5_findLeast s m args below meth c H locs 0 0 Q (F0 m 26 ls []) := by
          intro n
          induction n with
          | zero => intro d L3 ls H locs g26_0 g26_1 hm hP hS hl; exact absurd hm (by omega)
          | succ n ih26 =>
            intro d L3 ls H locs g26_0 g26_1 hm hP hS hl
            refine lv_iload_n hx hb dX5_findLeast_26 rfl (lv_at hl 2 rfl) ?_
            refine lv_iconst (v := (nI 1)) hx hb dX5_findLeast_27 (by decide +kernel) ?_
            refine zk_icmp_lt (tgt := 67) hx hb (by omega) (by omega) dX5_findLeast_28 (by decide) (fun c_2 => ?_) (fun c_2 => ?_)
            · skip
              exact hret _ ls _ _ L3 dX5_findLeast_67 (fun j h8 h9 => by rw [g26_1 j h8 h9, show d = 0 by omega]; exact zr_lm_F h8) hP hS
            · skip
              refine lv_aload_n hx hb dX5_findLeast_31 rfl (lv_at hl 0 rfl) ?_
              refine lv_iload_n hx hb dX5_findLeast_32 rfl (lv_at hl 1 rfl) ?_
              refine lv_iload_n hx hb dX5_findLeast_33 rfl (lv_at hl 2 rfl) ?_
              refine zk_rdV (As := [.int (nI p_), .int (nI d)]) (rest := []) ⟨hx, hb, hml, hown, hts⟩ hN (c_longAt l D cI cZ cR m_ tw sp dp mb sz ah mi mp m1 m2 m3 mc ml bl bd rp B p_ d (by omega) (by omega) (by omega) (by omega) (by omega) h4) (cwV 2 hts gX5_findLeast_X5_longAt rfl rfl rfl (by decide +kernel) ⟨Nat.le_of_ble_eq_true rfl, Nat.le_of_ble_eq_true rfl⟩) hK hP (zk_D hD rfl) [0, 1] rfl (by decide) rfl rfl rfl rfl hl.1 rfl (Nat.le_of_ble_eq_true rfl) dX5_findLeast_34 ⟨Nat.zero_le _, Nat.zero_le _⟩ ?_
              refine zk_nm (fun rr h_rr => ?_)
              have hrl := zr_lg_le (zr_v B ah) ah sz p_ d
              refine lv_istore_n (lv' := [(3, .int (nI rr)), (0, .ref m_), (1, .int (nI p_)), (2, .int (nI d))]) hx hb dX5_findLeast_37 rfl hl (by decide) rfl (fun ls hl => ?_)
              refine lv_iconst (v := (nI 3)) hx hb dX5_findLeast_38 (by decide +kernel) ?_
              refine lv_istore (lv' := [(4, .int (nI 3)), (3, .int (nI rr)), (0, .ref m_), (1, .int (nI p_)), (2, .int (nI d))]) hx hb dX5_findLeast_39 hl (by decide) rfl (fun ls hl => ?_)
              have L41 : ∀ (n : Nat) (ll : Nat) (L4 : Nat → Nat) (ls : Array Slot) (H : Heap) (locs : List Loc), (3 ≤ ll) → (ll ≤ max 3 (rr + 1)) → (∀ j, 3 ≤ j → j < ll → L4 j = d) → (∀ j, ll ≤ j → L4 j = L3 j) → (41 - ll) < n → va_P D vwCl [(m_, .inr (5, [.int (nI tw), .int (nI sp), .int (nI dp), .ref mb, .int (nI sz), .int (nI ah), .ref mi, .ref mp, .ref m1, .ref m2, .ref m3, .ref mc, .ref ml, .int (nI bl), .int (nI bd), .int (nI rp)])), (mb, zk_a cI 360 B), (ml, zk_a cI 41 L4)] H → va_S A s.heap H locs → lv_has ls 5 [(0, .ref m_), (1, .int (nI p_)), (2, .int (nI d)), (3, .int (nI rr)), (4, .int (nI ll))] → W p l e rmX5_findLeast s m args below meth c H locs 0 0 Q (F0 m 41 ls []) := by
                intro n
                induction n with
                | zero => intro ll L4 ls H locs g41_0 g41_1 g41_2 g41_3 hm hP hS hl; exact absurd hm (by omega)
                | succ n ih41 =>
                  intro ll L4 ls H locs g41_0 g41_1 g41_2 g41_3 hm hP hS hl
                  refine lv_iload hx hb dX5_findLeast_41 (lv_at hl 4 rfl) ?_
                  refine lv_iload_n hx hb dX5_findLeast_43 rfl (lv_at hl 3 rfl) ?_
                  refine zk_icmp_gt (tgt := 61) hx hb (by omega) (by omega) dX5_findLeast_44 (by decide) (fun c_3 => ?_) (fun c_3 => ?_)
                  · skip
                    have hlm : ∀ j, 3 ≤ j → j ≤ 40 → L4 j = zr_lm (zr_lg (zr_v B ah) ah sz p_) (sp - (d - 1)) (d - 1 + 1) j := fun j h8 h9 => by
                      rw [show d - 1 + 1 = d by omega, zr_lm_s (n := sp - (d - 1)) (m := sp - d) (by omega), ← h_rr]
                      by_cases h7 : j ≤ rr
                      · rw [if_pos h7]; exact g41_2 j h8 (by omega)
                      · rw [if_neg h7, g41_3 j (by omega)]; exact g26_1 j h8 h9
                    refine lv_iinc (v := (nI (d - 1))) (lv' := [(2, .int (nI (d - 1))), (0, .ref m_), (1, .int (nI p_)), (3, .int (nI rr)), (4, .int (nI ll))]) hx hb dX5_findLeast_61 hl (k := 2) rfl (zk_decN (by omega)) (by decide) rfl (fun ls hl => ?_)
                    refine lv_goto (tgt := 26) hx hb dX5_findLeast_64 (by decide) ?_
                    exact ih26 (d - 1) L4 ls _ _ (by omega) hlm (by omega) hP hS (lv_sub hl [1, 2, 0] rfl)
                  · skip
                    refine lv_aload_n hx hb dX5_findLeast_47 rfl (lv_at hl 0 rfl) ?_
                    refine va_get (D := D) (ci := 5) (v := .ref ml) (C := RX5) (T := TX5) (N := 16) hx hb hts ziX5_findLeast_5 hown hK hP 0 rfl rfl 12 (by decide) f32 (fun _ h9 => h9) rfl dX5_findLeast_48 ?_
                    refine lv_iload hx hb dX5_findLeast_51 (lv_at hl 4 rfl) ?_
                    refine lv_iload_n hx hb dX5_findLeast_53 rfl (lv_at hl 2 rfl) ?_
                    refine zk_ist (i := ll) (x := d) (g := L4) hx hb hK hP (zk_D hD rfl) hS 2 0 rfl rfl (by omega) (by decide) dX5_findLeast_54 (fun H locs hP hS => ?_)
                    have hP : va_P D vwCl [(m_, .inr (5, [.int (nI tw), .int (nI sp), .int (nI dp), .ref mb, .int (nI sz), .int (nI ah), .ref mi, .ref mp, .ref m1, .ref m2, .ref m3, .ref mc, .ref ml, .int (nI bl), .int (nI bd), .int (nI rp)])), (mb, zk_a cI 360 B), (ml, zk_a cI 41 (zk_up L4 ll d))] H := hP
                    refine lv_iinc (v := (nI (ll + 1))) (lv' := [(4, .int (nI (ll + 1))), (0, .ref m_), (1, .int (nI p_)), (2, .int (nI d)), (3, .int (nI rr))]) hx hb dX5_findLeast_55 hl (k := 4) rfl (by rw [show Int32.ofInt 1 = (1 : Int32) from rfl, nI_1]) (by decide) rfl (fun ls hl => ?_)
                    refine lv_goto (tgt := 41) hx hb dX5_findLeast_58 (by decide) ?_
                    exact ih41 (ll + 1) (zk_up L4 ll d) ls _ _ (by omega) (by omega) (fun j h8 h9 => by by_cases h7 : j = ll; exact h7 ▸ zk_up_eq _ _ _; rw [zk_up_ne h7]; exact g41_2 j h8 (by omega)) (fun j h9 => by rw [zk_up_ne (by omega)]; exact g41_3 j (by omega)) (by omega) hP hS (lv_sub hl [1, 2, 3, 4, 0] rfl)
              exact L41 (41 - 3 + 1) 3 L3 ls _ _ (by omega) (by omega) (fun j h8 h9 => absurd h8 (by omega)) (fun j h9 => rfl) (by omega) hP hS (lv_sub hl [2, 3, 4, 1, 0] rfl)
        exact L26 (sp + 1) sp L1 ls _ _ (by omega) (fun j h8 h9 => by rw [g2_1 j (by omega), show sp - sp = 0 by omega]; rfl) (by omega) hP hS (lv_sub hl [1, 2, 0] rfl)
      · skip
        refine lv_aload_n hx hb dX5_findLeast_8 rfl (lv_at hl 0 rfl) ?_
        refine va_get (D := D) (ci := 5) (v := .ref ml) (C := RX5) (T := TX5) (N := 16) hx hb hts ziX5_findLeast_5 hown hK hP 0 rfl rfl 12 (by decide) f32 (fun _ h9 => h9) rfl dX5_findLeast_9 ?_
        refine lv_iload_n hx hb dX5_findLeast_12 rfl (lv_at hl 2 rfl) ?_
        refine lv_iconst (v := (nI 0)) hx hb dX5_findLeast_13 (by decide +kernel) ?_
        refine zk_ist (i := i) (x := 0) (g := L1) hx hb hK hP (zk_D hD rfl) hS 2 0 rfl rfl (by omega) (by decide) dX5_findLeast_14 (fun H locs hP hS => ?_)
        have hP : va_P D vwCl [(m_, .inr (5, [.int (nI tw), .int (nI sp), .int (nI dp), .ref mb, .int (nI sz), .int (nI ah), .ref mi, .ref mp, .ref m1, .ref m2, .ref m3, .ref mc, .ref ml, .int (nI bl), .int (nI bd), .int (nI rp)])), (mb, zk_a cI 360 B), (ml, zk_a cI 41 (zk_up L1 i 0))] H := hP
        refine lv_iinc (v := (nI (i + 1))) (lv' := [(2, .int (nI (i + 1))), (0, .ref m_), (1, .int (nI p_))]) hx hb dX5_findLeast_15 hl (k := 2) rfl (by rw [show Int32.ofInt 1 = (1 : Int32) from rfl, nI_1]) (by decide) rfl (fun ls hl => ?_)
        refine lv_goto (tgt := 2) hx hb dX5_findLeast_18 (by decide) ?_
        exact ih2 (i + 1) (zk_up L1 i 0) ls _ _ (by omega) (fun j hj => by by_cases h9 : j = i; exact h9 ▸ zk_up_eq _ _ _; rw [zk_up_ne h9]; exact g2_1 j (by omega)) (by omega) hP hS (lv_sub hl [1, 2, 0] rfl)
  exact L2 (41 - 0 + 1) 0 L ls _ _ (by omega) (fun j hj => absurd hj (by omega)) (by omega) hP hS (lv_sub hl [1, 2, 0] rfl)
def rmX5_choose : Room := { frames := 1, cells := 0, slots := 0, locals := 22 }
set_option maxRecDepth 20000 in
theorem ziX5_choose_5 : ∀ w ∈ wsX50, w ∈ wsX5_choose := by decide +kernel
set_option maxHeartbeats 4000000 in
set_option maxRecDepth 100000 in
/-- choose of the reference -/
theorem c_mchoose (l : Launch) (D : va_G) (cI cZ cR : ClassId) (m_ : Nat) (tw : Nat) (sp : Nat) (dp : Nat) (mb : Nat) (sz : Nat) (ah : Nat) (mi : Nat) (mp : Nat) (m1 : Nat) (m2 : Nat) (m3 : Nat) (mc : Nat) (ml : Nat) (bl : Nat) (bd : Nat) (rp : Nat) (C : Nat → Nat) (L : Nat → Nat) (p_ : Nat) (h0 : p_ < 300) (h1 : C (p_ + 1) ≤ 2900) (h2 : ∀ j, 3 ≤ j → j ≤ 40 → 0 < L j → p_ + j ≤ 300 ∧ L j ≤ 300 ∧ C (p_ + j) ≤ 3000) (h3 : ∀ j, 3 ≤ j → j ≤ 40 → L j ≤ 300) : zk_Wi l yX5_choose wsX5_choose rmX5_choose D (zk_t cI cZ cR) [.ref m_, .int (nI p_)] [(m_, .inr (5, [.int (nI tw), .int (nI sp), .int (nI dp), .ref mb, .int (nI sz), .int (nI ah), .ref mi, .ref mp, .ref m1, .ref m2, .ref m3, .ref mc, .ref ml, .int (nI bl), .int (nI bd), .int (nI rp)])), (mc, zk_a cI 301 C), (ml, zk_a cI 41 L)] (fun (r : Int32) (u : Nat × Nat × Nat) => match u with | (c2, l2, d2) => r = nI l2 ∧ zr_w C p_ L 38 3 (9 + C (p_ + 1)) 1 0 = (c2, l2, d2) ∧ ((l2 = 1 ∧ d2 = 0) ∨ (3 ≤ l2 ∧ l2 ≤ 40 ∧ d2 = L l2))) (fun u => match u with | (c2, l2, d2) => [(m_, .inr (5, [.int (nI tw), .int (nI sp), .int (nI dp), .ref mb, .int (nI sz), .int (nI ah), .ref mi, .ref mp, .ref m1, .ref m2, .ref m3, .ref mc, .ref ml, .int (nI bl), .int (nI bd), .int (nI rp)])), (mc, zk_a cI 301 (zk_up C p_ c2)), (ml, zk_a cI 41 L)]) := by
  refine zk_enterI RX5 cX5_choose 5 (by decide) rfl rfl (Nat.le_of_ble_eq_true rfl) ?_
  intro p e s m args below meth c ls A Q hx hb hml hown hts hP hK hD hN hl hA hS hret
  have hl : lv_has ls 5 [(0, .ref m_), (1, .int (nI p_))] := hl
  have f29 := hts (.fieldLink RX5 29 "MatchFindersModel" "cost" "[I") (by decide +kernel)
  have f32 := hts (.fieldLink RX5 32 "MatchFindersModel" "least" "[I") (by decide +kernel)
  refine lv_iconst (v := (nI 1)) hx hb dX5_choose_0 (by decide +kernel) ?_
  refine lv_istore_n (lv' := [(2, .int (nI 1)), (0, .ref m_), (1, .int (nI p_))]) hx hb dX5_choose_1 rfl hl (by decide) rfl (fun ls hl => ?_)
  refine lv_aload_n hx hb dX5_choose_2 rfl (lv_at hl 1 rfl) ?_
  refine va_get (D := D) (ci := 5) (v := .ref mc) (C := RX5) (T := TX5) (N := 16) hx hb hts ziX5_choose_5 hown hK hP 0 rfl rfl 11 (by decide) f29 (fun _ h9 => h9) rfl dX5_choose_3 ?_
  refine lv_iload_n hx hb dX5_choose_6 rfl (lv_at hl 2 rfl) ?_
  refine lv_bipush (v := (nI 9)) hx hb dX5_choose_7 (by decide +kernel) ?_
  refine lv_aload_n hx hb dX5_choose_9 rfl (lv_at hl 1 rfl) ?_
  refine va_get (D := D) (ci := 5) (v := .ref mc) (C := RX5) (T := TX5) (N := 16) hx hb hts ziX5_choose_5 hown hK hP 0 rfl rfl 11 (by decide) f29 (fun _ h9 => h9) rfl dX5_choose_10 ?_
  refine lv_iload_n hx hb dX5_choose_13 rfl (lv_at hl 2 rfl) ?_
  refine lv_iconst (v := (nI 1)) hx hb dX5_choose_14 (by decide +kernel) ?_
  refine zk_add (v := p_ + 1) hx hb (rfl) dX5_choose_15 ?_
  refine zk_ild (v := C (p_ + 1)) hx hb hK hP 1 0 (i := p_ + 1) (g := C) rfl rfl (by omega) (by decide) rfl dX5_choose_16 ?_
  refine zk_add (v := 9 + (C (p_ + 1))) hx hb (rfl) dX5_choose_17 ?_
  refine zk_ist (i := p_) (x := 9 + (C (p_ + 1))) (g := C) hx hb hK hP (zk_D hD rfl) hS 1 0 rfl rfl (by omega) (by decide) dX5_choose_18 (fun H locs hP hS => ?_)
  have hP : va_P D vwCl [(m_, .inr (5, [.int (nI tw), .int (nI sp), .int (nI dp), .ref mb, .int (nI sz), .int (nI ah), .ref mi, .ref mp, .ref m1, .ref m2, .ref m3, .ref mc, .ref ml, .int (nI bl), .int (nI bd), .int (nI rp)])), (mc, zk_a cI 301 (zk_up C p_ (9 + (C (p_ + 1))))), (ml, zk_a cI 41 L)] H := hP
  refine lv_iconst (v := (nI 3)) hx hb dX5_choose_19 (by decide +kernel) ?_
  refine lv_istore_n (lv' := [(3, .int (nI 3)), (2, .int (nI 1)), (0, .ref m_), (1, .int (nI p_))]) hx hb dX5_choose_20 rfl hl (by decide) rfl (fun ls hl => ?_)
  have L21 : ∀ (n : Nat) (ll : Nat) (be : Nat) (cs : Nat) (ds1 : Nat) (ls : Array Slot) (H : Heap) (locs : List Loc), (3 ≤ ll) → (ll ≤ 41) → (cs ≤ 3000) → (zr_w C p_ L (41 - ll) ll cs be ds1 = zr_w C p_ L 38 3 (9 + C (p_ + 1)) 1 0) → ((be = 1 ∧ ds1 = 0) ∨ (3 ≤ be ∧ be ≤ 40 ∧ ds1 = L be)) → (41 - ll) < n → va_P D vwCl [(m_, .inr (5, [.int (nI tw), .int (nI sp), .int (nI dp), .ref mb, .int (nI sz), .int (nI ah), .ref mi, .ref mp, .ref m1, .ref m2, .ref m3, .ref mc, .ref ml, .int (nI bl), .int (nI bd), .int (nI rp)])), (mc, zk_a cI 301 (zk_up C p_ cs)), (ml, zk_a cI 41 L)] H → va_S A s.heap H locs → lv_has ls 5 [(0, .ref m_), (1, .int (nI p_)), (2, .int (nI be)), (3, .int (nI ll))] → W p l e rmX5_choose s m args below meth c H locs 0 0 Q (F0 m 21 ls []) := by
    intro n
    induction n with
    | zero => intro ll be cs ds1 ls H locs g21_0 g21_1 g21_2 g21_3 g21_4 hm hP hS hl; exact absurd hm (by omega)
    | succ n ih21 =>
      intro ll be cs ds1 ls H locs g21_0 g21_1 g21_2 g21_3 g21_4 hm hP hS hl
      refine lv_iload_n hx hb dX5_choose_21 rfl (lv_at hl 3 rfl) ?_
      refine lv_bipush (v := (nI 40)) hx hb dX5_choose_22 (by decide +kernel) ?_
      refine zk_icmp_gt (tgt := 116) hx hb (by omega) (by omega) dX5_choose_24 (by decide) (fun c_1 => ?_) (fun c_1 => ?_)
      · skip
        refine lv_iload_n hx hb dX5_choose_116 rfl (lv_at hl 2 rfl) ?_
        exact hret _ ls _ _ _ (cs, be, ds1) dX5_choose_117 ⟨rfl, by rw [← g21_3, show 41 - ll = 0 by omega]; rfl, g21_4⟩ hP hS
      · skip
        have hL3 := h3 ll (by omega) (by omega)
        refine lv_aload_n hx hb dX5_choose_27 rfl (lv_at hl 0 rfl) ?_
        refine va_get (D := D) (ci := 5) (v := .ref ml) (C := RX5) (T := TX5) (N := 16) hx hb hts ziX5_choose_5 hown hK hP 0 rfl rfl 12 (by decide) f32 (fun _ h9 => h9) rfl dX5_choose_28 ?_
        refine lv_iload_n hx hb dX5_choose_31 rfl (lv_at hl 3 rfl) ?_
        refine zk_ild (v := L ll) hx hb hK hP 2 0 (i := ll) (g := L) rfl rfl (by omega) (by decide) rfl dX5_choose_32 ?_
        refine zk_if_le (tgt := 110) hx hb (by omega) dX5_choose_33 (by decide) (fun c_2 => ?_) (fun c_2 => ?_)
        · skip
          refine lv_iinc (v := (nI (ll + 1))) (lv' := [(3, .int (nI (ll + 1))), (0, .ref m_), (1, .int (nI p_)), (2, .int (nI be))]) hx hb dX5_choose_110 hl (k := 3) rfl (by rw [show Int32.ofInt 1 = (1 : Int32) from rfl, nI_1]) (by decide) rfl (fun ls hl => ?_)
          refine lv_goto (tgt := 21) hx hb dX5_choose_113 (by decide) ?_
          exact ih21 (ll + 1) be cs ds1 ls _ _ (by omega) (by omega) (by omega) (by rw [← g21_3, zr_w_z (n := 41 - ll) (k := 41 - (ll + 1)) c_2 (by omega)]) g21_4 (by omega) hP hS (lv_sub hl [1, 2, 3, 0] rfl)
        · skip
          have hL := h2 ll (by omega) (by omega) c_2
          have hg1 := zr_Gb (L ll)
          have hg2 := zr_Gb (ll - 2)
          refine lv_iconst (v := (nI 2)) hx hb dX5_choose_36 (by decide +kernel) ?_
          refine lv_iload_n hx hb dX5_choose_37 rfl (lv_at hl 3 rfl) ?_
          refine lv_iconst (v := (nI 2)) hx hb dX5_choose_38 (by decide +kernel) ?_
          refine zk_sub (v := ll - 2) hx hb (by omega) dX5_choose_39 ?_
          refine zk_rdS (As := [.int (nI (ll - 2))]) (rest := [.int (nI 2)]) ⟨hx, hb, hml, hown, hts⟩ hN (c_g l D cI cZ cR (ll - 2) (by omega)) (va_cwS 1 hts gX5_choose_X5_g rfl rfl rfl (by decide +kernel) ⟨Nat.le_of_ble_eq_true rfl, Nat.le_of_ble_eq_true rfl⟩) hK hP (zk_D hD rfl) [] rfl (by decide) rfl hl.1 rfl (Nat.le_of_ble_eq_true rfl) dX5_choose_40 ⟨Nat.zero_le _, Nat.zero_le _⟩ ?_
          refine zk_add (v := 2 + (zr_G (ll - 2))) hx hb (rfl) dX5_choose_43 ?_
          refine lv_aload_n hx hb dX5_choose_44 rfl (lv_at hl 0 rfl) ?_
          refine va_get (D := D) (ci := 5) (v := .ref ml) (C := RX5) (T := TX5) (N := 16) hx hb hts ziX5_choose_5 hown hK hP 0 rfl rfl 12 (by decide) f32 (fun _ h9 => h9) rfl dX5_choose_45 ?_
          refine lv_iload_n hx hb dX5_choose_48 rfl (lv_at hl 3 rfl) ?_
          refine zk_ild (v := L ll) hx hb hK hP 2 0 (i := ll) (g := L) rfl rfl (by omega) (by decide) rfl dX5_choose_49 ?_
          refine zk_rdS (As := [.int (nI (L ll))]) (rest := [.int (nI (2 + (zr_G (ll - 2))))]) ⟨hx, hb, hml, hown, hts⟩ hN (c_g l D cI cZ cR (L ll) (by omega)) (va_cwS 1 hts gX5_choose_X5_g rfl rfl rfl (by decide +kernel) ⟨Nat.le_of_ble_eq_true rfl, Nat.le_of_ble_eq_true rfl⟩) hK hP (zk_D hD rfl) [] rfl (by decide) rfl hl.1 rfl (Nat.le_of_ble_eq_true rfl) dX5_choose_50 ⟨Nat.zero_le _, Nat.zero_le _⟩ ?_
          refine zk_add (v := (2 + (zr_G (ll - 2))) + (zr_G (L ll))) hx hb (rfl) dX5_choose_53 ?_
          refine lv_aload_n hx hb dX5_choose_54 rfl (lv_at hl 0 rfl) ?_
          refine va_get (D := D) (ci := 5) (v := .ref mc) (C := RX5) (T := TX5) (N := 16) hx hb hts ziX5_choose_5 hown hK hP 0 rfl rfl 11 (by decide) f29 (fun _ h9 => h9) rfl dX5_choose_55 ?_
          refine lv_iload_n hx hb dX5_choose_58 rfl (lv_at hl 1 rfl) ?_
          refine lv_iload_n hx hb dX5_choose_59 rfl (lv_at hl 3 rfl) ?_
          refine zk_add (v := p_ + ll) hx hb (rfl) dX5_choose_60 ?_
          refine zk_ild (v := (zk_up C p_ cs) (p_ + ll)) hx hb hK hP 1 0 (i := p_ + ll) (g := zk_up C p_ cs) rfl rfl (by omega) (by decide) rfl dX5_choose_61 ?_
          refine zk_top (congrArg nI (zk_up_ne (g := C) (x := cs) (show p_ + ll ≠ p_ by omega))) ?_
          refine zk_add (v := ((2 + (zr_G (ll - 2))) + (zr_G (L ll))) + (C (p_ + ll))) hx hb (rfl) dX5_choose_62 ?_
          refine zk_nm (fun cc h_cc => ?_)
          refine lv_istore (lv' := [(4, .int (nI cc)), (0, .ref m_), (1, .int (nI p_)), (2, .int (nI be)), (3, .int (nI ll))]) hx hb dX5_choose_63 hl (by decide) rfl (fun ls hl => ?_)
          refine lv_iload hx hb dX5_choose_65 (lv_at hl 0 rfl) ?_
          refine lv_aload_n hx hb dX5_choose_67 rfl (lv_at hl 1 rfl) ?_
          refine va_get (D := D) (ci := 5) (v := .ref mc) (C := RX5) (T := TX5) (N := 16) hx hb hts ziX5_choose_5 hown hK hP 0 rfl rfl 11 (by decide) f29 (fun _ h9 => h9) rfl dX5_choose_68 ?_
          refine lv_iload_n hx hb dX5_choose_71 rfl (lv_at hl 2 rfl) ?_
          refine zk_ild (v := (zk_up C p_ cs) p_) hx hb hK hP 1 0 (i := p_) (g := zk_up C p_ cs) rfl rfl (by omega) (by decide) rfl dX5_choose_72 ?_
          refine zk_top (congrArg nI (zk_up_eq C p_ cs)) ?_
          refine zk_icmp_gt (tgt := 80) hx hb (by omega) (by omega) dX5_choose_73 (by decide) (fun c_3 => ?_) (fun c_3 => ?_)
          · skip
            refine lv_iload_n hx hb dX5_choose_80 rfl (lv_at hl 3 rfl) ?_
            refine lv_istore_n (lv' := [(2, .int (nI be)), (4, .int (nI cc)), (0, .ref m_), (1, .int (nI p_)), (3, .int (nI ll))]) hx hb dX5_choose_81 rfl hl (by decide) rfl (fun ls hl => ?_)
            refine lv_aload_n hx hb dX5_choose_82 rfl (lv_at hl 2 rfl) ?_
            refine va_get (D := D) (ci := 5) (v := .ref mc) (C := RX5) (T := TX5) (N := 16) hx hb hts ziX5_choose_5 hown hK hP 0 rfl rfl 11 (by decide) f29 (fun _ h9 => h9) rfl dX5_choose_83 ?_
            refine lv_iload_n hx hb dX5_choose_86 rfl (lv_at hl 3 rfl) ?_
            refine lv_iload hx hb dX5_choose_87 (lv_at hl 1 rfl) ?_
            refine lv_aload_n hx hb dX5_choose_89 rfl (lv_at hl 2 rfl) ?_
            refine va_get (D := D) (ci := 5) (v := .ref mc) (C := RX5) (T := TX5) (N := 16) hx hb hts ziX5_choose_5 hown hK hP 0 rfl rfl 11 (by decide) f29 (fun _ h9 => h9) rfl dX5_choose_90 ?_
            refine lv_iload_n hx hb dX5_choose_93 rfl (lv_at hl 3 rfl) ?_
            refine zk_ild (v := (zk_up C p_ cs) p_) hx hb hK hP 1 0 (i := p_) (g := zk_up C p_ cs) rfl rfl (by omega) (by decide) rfl dX5_choose_94 ?_
            refine zk_top (congrArg nI (zk_up_eq C p_ cs)) ?_
            refine zk_icmp_ge (tgt := 103) hx hb (by omega) (by omega) dX5_choose_95 (by decide) (fun c_4 => ?_) (fun c_4 => absurd c_4 (by omega))
            refine lv_aload_n hx hb dX5_choose_103 rfl (lv_at hl 2 rfl) ?_
            refine va_get (D := D) (ci := 5) (v := .ref mc) (C := RX5) (T := TX5) (N := 16) hx hb hts ziX5_choose_5 hown hK hP 0 rfl rfl 11 (by decide) f29 (fun _ h9 => h9) rfl dX5_choose_104 ?_
            refine lv_iload_n hx hb dX5_choose_107 rfl (lv_at hl 3 rfl) ?_
            refine zk_ild (v := (zk_up C p_ cs) p_) hx hb hK hP 1 0 (i := p_) (g := zk_up C p_ cs) rfl rfl (by omega) (by decide) rfl dX5_choose_108 ?_
            refine zk_top (congrArg nI (zk_up_eq C p_ cs)) ?_
            refine zk_ist (i := p_) (x := cs) (g := zk_up C p_ cs) hx hb hK hP (zk_D hD rfl) hS 1 0 rfl rfl (by omega) (by decide) dX5_choose_109 (fun H locs hP hS => ?_)
            have hP : va_P D vwCl [(m_, .inr (5, [.int (nI tw), .int (nI sp), .int (nI dp), .ref mb, .int (nI sz), .int (nI ah), .ref mi, .ref mp, .ref m1, .ref m2, .ref m3, .ref mc, .ref ml, .int (nI bl), .int (nI bd), .int (nI rp)])), (mc, zk_a cI 301 (zk_up (zk_up C p_ cs) p_ cs)), (ml, zk_a cI 41 L)] H := hP
            rw [zk_up_up] at hP
            have hP : va_P D vwCl [(m_, .inr (5, [.int (nI tw), .int (nI sp), .int (nI dp), .ref mb, .int (nI sz), .int (nI ah), .ref mi, .ref mp, .ref m1, .ref m2, .ref m3, .ref mc, .ref ml, .int (nI bl), .int (nI bd), .int (nI rp)])), (mc, zk_a cI 301 (zk_up C p_ cs)), (ml, zk_a cI 41 L)] H := hP
            refine lv_iinc (v := (nI (ll + 1))) (lv' := [(3, .int (nI (ll + 1))), (2, .int (nI be)), (4, .int (nI cc)), (0, .ref m_), (1, .int (nI p_))]) hx hb dX5_choose_110 hl (k := 4) rfl (by rw [show Int32.ofInt 1 = (1 : Int32) from rfl, nI_1]) (by decide) rfl (fun ls hl => ?_)
            refine lv_goto (tgt := 21) hx hb dX5_choose_113 (by decide) ?_
            exact ih21 (ll + 1) be cs ds1 ls _ _ (by omega) (by omega) (by omega) (by rw [← g21_3, zr_w_kp (n := 41 - ll) (k := 41 - (ll + 1)) (d := L ll) (c := cc) rfl (by omega) (by omega) (by omega) (by omega)]) g21_4 (by omega) hP hS (lv_sub hl [3, 4, 1, 0] rfl)
          · skip
            refine lv_iload_n hx hb dX5_choose_76 rfl (lv_at hl 4 rfl) ?_
            refine lv_goto (tgt := 81) hx hb dX5_choose_77 (by decide) ?_
            refine lv_istore_n (lv' := [(2, .int (nI ll)), (4, .int (nI cc)), (0, .ref m_), (1, .int (nI p_)), (3, .int (nI ll))]) hx hb dX5_choose_81 rfl hl (by decide) rfl (fun ls hl => ?_)
            refine lv_aload_n hx hb dX5_choose_82 rfl (lv_at hl 2 rfl) ?_
            refine va_get (D := D) (ci := 5) (v := .ref mc) (C := RX5) (T := TX5) (N := 16) hx hb hts ziX5_choose_5 hown hK hP 0 rfl rfl 11 (by decide) f29 (fun _ h9 => h9) rfl dX5_choose_83 ?_
            refine lv_iload_n hx hb dX5_choose_86 rfl (lv_at hl 3 rfl) ?_
            refine lv_iload hx hb dX5_choose_87 (lv_at hl 1 rfl) ?_
            refine lv_aload_n hx hb dX5_choose_89 rfl (lv_at hl 2 rfl) ?_
            refine va_get (D := D) (ci := 5) (v := .ref mc) (C := RX5) (T := TX5) (N := 16) hx hb hts ziX5_choose_5 hown hK hP 0 rfl rfl 11 (by decide) f29 (fun _ h9 => h9) rfl dX5_choose_90 ?_
            refine lv_iload_n hx hb dX5_choose_93 rfl (lv_at hl 3 rfl) ?_
            refine zk_ild (v := (zk_up C p_ cs) p_) hx hb hK hP 1 0 (i := p_) (g := zk_up C p_ cs) rfl rfl (by omega) (by decide) rfl dX5_choose_94 ?_
            refine zk_top (congrArg nI (zk_up_eq C p_ cs)) ?_
            refine zk_icmp_ge (tgt := 103) hx hb (by omega) (by omega) dX5_choose_95 (by decide) (fun c_5 => ?_) (fun c_5 => ?_)
            · skip
              have hcc : cc = cs := by omega
              refine lv_aload_n hx hb dX5_choose_103 rfl (lv_at hl 2 rfl) ?_
              refine va_get (D := D) (ci := 5) (v := .ref mc) (C := RX5) (T := TX5) (N := 16) hx hb hts ziX5_choose_5 hown hK hP 0 rfl rfl 11 (by decide) f29 (fun _ h9 => h9) rfl dX5_choose_104 ?_
              refine lv_iload_n hx hb dX5_choose_107 rfl (lv_at hl 3 rfl) ?_
              refine zk_ild (v := (zk_up C p_ cs) p_) hx hb hK hP 1 0 (i := p_) (g := zk_up C p_ cs) rfl rfl (by omega) (by decide) rfl dX5_choose_108 ?_
              refine zk_top (congrArg nI (zk_up_eq C p_ cs)) ?_
              refine zk_ist (i := p_) (x := cs) (g := zk_up C p_ cs) hx hb hK hP (zk_D hD rfl) hS 1 0 rfl rfl (by omega) (by decide) dX5_choose_109 (fun H locs hP hS => ?_)
              have hP : va_P D vwCl [(m_, .inr (5, [.int (nI tw), .int (nI sp), .int (nI dp), .ref mb, .int (nI sz), .int (nI ah), .ref mi, .ref mp, .ref m1, .ref m2, .ref m3, .ref mc, .ref ml, .int (nI bl), .int (nI bd), .int (nI rp)])), (mc, zk_a cI 301 (zk_up (zk_up C p_ cs) p_ cs)), (ml, zk_a cI 41 L)] H := hP
              rw [zk_up_up] at hP
              have hP : va_P D vwCl [(m_, .inr (5, [.int (nI tw), .int (nI sp), .int (nI dp), .ref mb, .int (nI sz), .int (nI ah), .ref mi, .ref mp, .ref m1, .ref m2, .ref m3, .ref mc, .ref ml, .int (nI bl), .int (nI bd), .int (nI rp)])), (mc, zk_a cI 301 (zk_up C p_ cs)), (ml, zk_a cI 41 L)] H := hP
              refine lv_iinc (v := (nI (ll + 1))) (lv' := [(3, .int (nI (ll + 1))), (2, .int (nI ll)), (4, .int (nI cc)), (0, .ref m_), (1, .int (nI p_))]) hx hb dX5_choose_110 hl (k := 4) rfl (by rw [show Int32.ofInt 1 = (1 : Int32) from rfl, nI_1]) (by decide) rfl (fun ls hl => ?_)
              refine lv_goto (tgt := 21) hx hb dX5_choose_113 (by decide) ?_
              exact ih21 (ll + 1) ll cs (L ll) ls _ _ (by omega) (by omega) (by omega) (by rw [← g21_3, zr_w_up (n := 41 - ll) (k := 41 - (ll + 1)) (d := L ll) (c := cc) rfl (by omega) (by omega) (by omega) (by omega), hcc]) (Or.inr ⟨by omega, by omega, rfl⟩) (by omega) hP hS (lv_sub hl [3, 4, 1, 0] rfl)
            · skip
              refine lv_iload hx hb dX5_choose_98 (lv_at hl 1 rfl) ?_
              refine lv_goto (tgt := 109) hx hb dX5_choose_100 (by decide) ?_
              refine zk_ist (i := p_) (x := cc) (g := zk_up C p_ cs) hx hb hK hP (zk_D hD rfl) hS 1 0 rfl rfl (by omega) (by decide) dX5_choose_109 (fun H locs hP hS => ?_)
              have hP : va_P D vwCl [(m_, .inr (5, [.int (nI tw), .int (nI sp), .int (nI dp), .ref mb, .int (nI sz), .int (nI ah), .ref mi, .ref mp, .ref m1, .ref m2, .ref m3, .ref mc, .ref ml, .int (nI bl), .int (nI bd), .int (nI rp)])), (mc, zk_a cI 301 (zk_up (zk_up C p_ cs) p_ cc)), (ml, zk_a cI 41 L)] H := hP
              rw [zk_up_up] at hP
              have hP : va_P D vwCl [(m_, .inr (5, [.int (nI tw), .int (nI sp), .int (nI dp), .ref mb, .int (nI sz), .int (nI ah), .ref mi, .ref mp, .ref m1, .ref m2, .ref m3, .ref mc, .ref ml, .int (nI bl), .int (nI bd), .int (nI rp)])), (mc, zk_a cI 301 (zk_up C p_ cc)), (ml, zk_a cI 41 L)] H := hP
              refine lv_iinc (v := (nI (ll + 1))) (lv' := [(3, .int (nI (ll + 1))), (2, .int (nI ll)), (4, .int (nI cc)), (0, .ref m_), (1, .int (nI p_))]) hx hb dX5_choose_110 hl (k := 4) rfl (by rw [show Int32.ofInt 1 = (1 : Int32) from rfl, nI_1]) (by decide) rfl (fun ls hl => ?_)
              refine lv_goto (tgt := 21) hx hb dX5_choose_113 (by decide) ?_
              exact ih21 (ll + 1) ll cc (L ll) ls _ _ (by omega) (by omega) (by omega) (by rw [← g21_3, zr_w_up (n := 41 - ll) (k := 41 - (ll + 1)) (d := L ll) (c := cc) rfl (by omega) (by omega) (by omega) (by omega)]) (Or.inr ⟨by omega, by omega, rfl⟩) (by omega) hP hS (lv_sub hl [3, 4, 1, 0] rfl)
  exact L21 (41 - 3 + 1) 3 1 (9 + (C (p_ + 1))) 0 ls _ _ (by omega) (by omega) (by omega) rfl (Or.inl ⟨rfl, rfl⟩) (by omega) hP hS (lv_sub hl [2, 3, 1, 0] rfl)
