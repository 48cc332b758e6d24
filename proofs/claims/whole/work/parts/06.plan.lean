/-! The fewest bits from a place on. -/
/-- the distance of the first pair that reaches so far; 0: none -/
def zr_ls : List (Nat × Nat) → Nat → Nat
  | [], _ => 0
  | x :: F, l => if l ≤ x.1 then x.2 else zr_ls F l
theorem zr_ls_at : ∀ (F : List (Nat × Nat)) (l k : Nat) (x : Nat × Nat), F[k]? = some x → l ≤ x.1 → (∀ j, j < k → ∀ y, F[j]? = some y → y.1 < l) → zr_ls F l = x.2
  | [], l, k, x, h, _, _ => by simp at h
  | a :: F, l, 0, x, h, h1, _ => by
    rw [List.getElem?_cons_zero] at h
    cases h
    rw [zr_ls, if_pos h1]
  | a :: F, l, k + 1, x, h, h1, h2 => by
    rw [List.getElem?_cons_succ] at h
    have h3 := h2 0 (by omega) a (List.getElem?_cons_zero ..)
    rw [zr_ls, if_neg (by omega)]
    exact zr_ls_at F l k x h h1 (fun j hj y hy => h2 (j + 1) (by omega) y (by rw [List.getElem?_cons_succ]; exact hy))
theorem zr_ls_no : ∀ (F : List (Nat × Nat)) (l : Nat), (∀ x, x ∈ F → x.1 < l) → zr_ls F l = 0
  | [], _, _ => rfl
  | a :: F, l, h => by
    have h1 := h a List.mem_cons_self
    rw [zr_ls, if_neg (by omega)]
    exact zr_ls_no F l (fun x hx => h x (List.mem_cons_of_mem _ hx))
def zr_w (co : Nat → Nat) (p : Nat) (ls : Nat → Nat) : Nat → Nat → Nat → Nat → Nat → Nat × Nat × Nat
  | 0, _, cs, ln, ds => (cs, ln, ds)
  | n + 1, l, cs, ln, ds => if 0 < ls l then (if 2 + zr_G (ls l) + zr_G (l - 2) + co (p + l) ≤ cs then zr_w co p ls n (l + 1) (2 + zr_G (ls l) + zr_G (l - 2) + co (p + l)) l (ls l) else zr_w co p ls n (l + 1) cs ln ds) else zr_w co p ls n (l + 1) cs ln ds
theorem zr_w_no {co : Nat → Nat} {p : Nat} {ls : Nat → Nat} : ∀ (n l cs ln ds : Nat), (∀ i, l ≤ i → ls i = 0) → zr_w co p ls n l cs ln ds = (cs, ln, ds)
  | 0, _, _, _, _, _ => rfl
  | n + 1, l, cs, ln, ds, h => by
    rw [zr_w, if_neg (by rw [h l (Nat.le_refl _)]; omega)]
    exact zr_w_no n (l + 1) cs ln ds (fun i hi => h i (by omega))
theorem zr_w_up {co : Nat → Nat} {p : Nat} {ls : Nat → Nat} {n k l cs ln ds d c : Nat} (hd : ls l = d) (h0 : 0 < d) (hc : c = 2 + zr_G d + zr_G (l - 2) + co (p + l)) (h : c ≤ cs) (hn : n = k + 1) : zr_w co p ls n l cs ln ds = zr_w co p ls k (l + 1) c l d := by
  subst hn; subst hd; subst hc
  rw [zr_w, if_pos h0, if_pos h]
theorem zr_w_kp {co : Nat → Nat} {p : Nat} {ls : Nat → Nat} {n k l cs ln ds d c : Nat} (hd : ls l = d) (h0 : 0 < d) (hc : c = 2 + zr_G d + zr_G (l - 2) + co (p + l)) (h : cs < c) (hn : n = k + 1) : zr_w co p ls n l cs ln ds = zr_w co p ls k (l + 1) cs ln ds := by
  subst hn; subst hd; subst hc
  rw [zr_w, if_pos h0, if_neg (by omega)]
theorem zr_w_co {co co' : Nat → Nat} {p : Nat} {ls : Nat → Nat} (h : ∀ i, 1 ≤ i → co (p + i) = co' (p + i)) : ∀ (n l cs ln ds : Nat), 1 ≤ l → zr_w co p ls n l cs ln ds = zr_w co' p ls n l cs ln ds
  | 0, _, _, _, _, _ => rfl
  | n + 1, l, cs, ln, ds, hl => by
    rw [zr_w, zr_w, h l hl]
    rw [zr_w_co h n (l + 1) cs ln ds (by omega), zr_w_co h n (l + 1) _ _ _ (by omega)]
theorem zr_w_cs {co : Nat → Nat} {p : Nat} {ls : Nat → Nat} : ∀ (n l cs ln ds : Nat), (zr_w co p ls n l cs ln ds).1 ≤ cs
  | 0, _, cs, _, _ => Nat.le_refl cs
  | n + 1, l, cs, ln, ds => by
    unfold zr_w
    split
    · split
      · exact Nat.le_trans (zr_w_cs n _ _ _ _) (by assumption)
      · exact zr_w_cs n _ _ _ _
    · exact zr_w_cs n _ _ _ _
theorem zr_G_le : ∀ (n x : Nat), x ≤ n → zr_G x ≤ 2 * x + 1
  | 0, x, h => by rw [zr_G_1 (by omega)]; omega
  | n + 1, x, h => by
    by_cases h1 : 1 < x
    · rw [zr_G_s h1]
      have h2 := zr_G_le n (x / 2) (by omega)
      omega
    · rw [zr_G_1 (by omega)]; omega
theorem zr_Gb (x : Nat) : zr_G x ≤ 2 * x + 1 := zr_G_le x x (Nat.le_refl _)
theorem zk_up_self (g : Nat → Nat) (i : Nat) : zk_up g i (g i) = g := by
  funext j
  by_cases h : j = i
  · subst h; simp [zk_up]
  · simp [zk_up, h]
theorem zk_up_up (g : Nat → Nat) (i x y : Nat) : zk_up (zk_up g i x) i y = zk_up g i y := by
  funext j
  by_cases h : j = i
  · subst h; simp [zk_up]
  · simp [zk_up, h]
/-- from the end back: each place's bits, and its first piece -/
def zr_DP (Fp : Nat → List (Nat × Nat)) (sz lo : Nat) (co ln ds : Nat → Nat) : Prop := co sz = 0 ∧ ∀ p, lo ≤ p → p < sz → zr_w co p (zr_ls (Fp p)) 38 3 (9 + co (p + 1)) 1 0 = (co p, ln p, ds p)
theorem zr_DP_le {Fp : Nat → List (Nat × Nat)} {sz lo : Nat} {co ln ds : Nat → Nat} (h : zr_DP Fp sz lo co ln ds) : ∀ (n p : Nat), sz - p = n → lo ≤ p → p ≤ sz → co p ≤ 9 * n
  | 0, p, hn, _, h2 => by
    have h3 : p = sz := by omega
    subst h3
    rw [h.1]; omega
  | n + 1, p, hn, h1, h2 => by
    have h3 := zr_DP_le h n (p + 1) (by omega) (by omega) (by omega)
    have h4 := h.2 p h1 (by omega)
    have h5 := zr_w_cs (co := co) (p := p) (ls := zr_ls (Fp p)) 38 3 (9 + co (p + 1)) 1 0
    rw [h4] at h5
    have h6 : co p ≤ 9 + co (p + 1) := h5
    omega
theorem zr_DP_up {Fp : Nat → List (Nat × Nat)} {sz p : Nat} {co ln ds : Nat → Nat} {c l d : Nat} (h : zr_DP Fp sz (p + 1) co ln ds) (hp : p < sz) (hw : zr_w co p (zr_ls (Fp p)) 38 3 (9 + co (p + 1)) 1 0 = (c, l, d)) : zr_DP Fp sz p (zk_up co p c) (zk_up ln p l) (zk_up ds p d) := by
  have e : ∀ q i, p ≤ q → 1 ≤ i → zk_up co p c (q + i) = co (q + i) := fun q i h1 h2 => zk_up_ne (by omega)
  refine ⟨by rw [zk_up_ne (by omega)]; exact h.1, fun q h1 h2 => ?_⟩
  rw [zr_w_co (co' := co) (fun i hi => e q i h1 hi) 38 3 _ 1 0 (by omega), e q 1 h1 (by omega)]
  by_cases hq : q = p
  · subst hq
    rw [zk_up_eq, zk_up_eq, zk_up_eq]
    exact hw
  · rw [zk_up_ne hq, zk_up_ne hq, zk_up_ne hq]
    exact h.2 q (by omega) h2
theorem zk_dec (x : Int32) : x + Int32.ofInt (-1) = x - nI 1 := by rw [Int32.sub_eq_add_neg]; rfl
theorem zk_pr_lt {q : Nat} (h : q < 2 ^ 30) (h1 : nI q - nI 1 < 0) : q = 0 := by
  rw [Int32.lt_iff_toInt_lt, pk_sub_toInt h (by decide), Int32.toInt_zero] at h1
  omega
theorem zk_pr_ge {q : Nat} (h : q < 2 ^ 30) (h1 : ¬ nI q - nI 1 < 0) : 0 < q := by
  rw [Int32.lt_iff_toInt_lt, pk_sub_toInt h (by decide), Int32.toInt_zero] at h1
  omega
theorem zk_pr_s (p : Nat) : nI (p + 1) - nI 1 = nI p := pk_sub (by omega)
theorem zk_lts {f : Nat → Nat} {k a b : Nat} (h : ∀ j, j < k → f j < a) (hab : a ≤ b) (hk : f k < b) : ∀ j, j < k + 1 → f j < b := fun j hj => by
  by_cases h1 : j = k
  · subst h1; exact hk
  · have h2 := h j (by omega); omega
theorem zk_isb {F : List (Nat × Nat)} {fl fd : Nat → Nat} {n i : Nat} (h0 : zr_is F fl fd n) (hb : ∀ j, j < n → fl j < i) : ∀ x, x ∈ F → x.1 < i := fun x hx => by
  obtain ⟨j, hj⟩ := List.getElem?_of_mem hx
  have hj2 : j < n := by rw [← h0.1]; exact (List.getElem?_eq_some_iff.mp hj).1
  have h8 := h0.2 j hj2
  rw [hj] at h8
  cases h8
  exact hb j hj2
theorem zr_ls_is {F : List (Nat × Nat)} {fl fd : Nat → Nat} {n k l : Nat} (h0 : zr_is F fl fd n) (hk : k < n) (hl : l ≤ fl k) (hb : ∀ j, j < k → fl j < l) : zr_ls F l = fd k := by
  refine zr_ls_at F l k (fl k, fd k) (h0.2 k hk) hl (fun j hj y hy => ?_)
  have h8 := h0.2 j (by omega)
  rw [hy] at h8
  cases h8
  exact hb j hj
def rmX1_weighMatches : Room := { frames := 1, cells := 0, slots := 0, locals := 22 }
set_option maxRecDepth 20000 in
theorem ziX1_weighMatches_0 : ∀ w ∈ wsX00, w ∈ wsX1_weighMatches := by decide +kernel
set_option maxRecDepth 20000 in
theorem ziX1_weighMatches_1 : ∀ w ∈ wsX10, w ∈ wsX1_weighMatches := by decide +kernel
set_option maxHeartbeats 4000000 in
set_option maxRecDepth 100000 in
/-- Plan.weighMatches -/
theorem c_weighMatches (l : Launch) (D : va_G) (cI cZ cR : ClassId) (k_ : Nat) (ka : Nat) (kb : Nat) (kd : Nat) (co : Nat → Nat) (pn : Nat → Nat) (pd : Nat → Nat) (f : Nat) (sp : Nat) (dp : Nat) (fa : Nat) (fb : Nat) (fc : Nat) (le : Nat) (di : Nat) (fl : Nat → Nat) (fd : Nat → Nat) (t : Nat) (p_ : Nat) (mo : Nat) (F : List (Nat × Nat)) (h0 : zr_is F fl fd fc) (h1 : ∀ x, x ∈ F → 3 ≤ x.1 ∧ x.1 ≤ mo ∧ 1 ≤ x.2 ∧ x.2 ≤ 300) (h2 : p_ + mo ≤ 300) (h3 : mo ≤ 40) (h4 : p_ < 300) (h5 : fc ≤ 38) (h6 : ∀ i, i ≤ mo → co (p_ + i) ≤ 3000) : zk_Wv l yX1_weighMatches wsX1_weighMatches rmX1_weighMatches D (zk_t cI cZ cR) [.ref k_, .int (nI p_), .ref f] [(k_, .inr (1, [.ref ka, .ref kb, .ref kd])), (ka, zk_a cI 301 co), (kb, zk_a cI 300 pn), (kd, zk_a cI 300 pd), (f, .inr (0, [.ref t, .int (nI sp), .int (nI dp), .ref fa, .ref fb, .int (nI fc), .int (nI le), .int (nI di)])), (fa, zk_a cI 38 fl), (fb, zk_a cI 38 fd)] (fun u : Nat × Nat × Nat => match u with | (c2, l2, d2) => zr_w co p_ (zr_ls F) 38 3 (co p_) (pn p_) (pd p_) = (c2, l2, d2)) (fun u => match u with | (c2, l2, d2) => [(k_, .inr (1, [.ref ka, .ref kb, .ref kd])), (ka, zk_a cI 301 (zk_up co p_ c2)), (kb, zk_a cI 300 (zk_up pn p_ l2)), (kd, zk_a cI 300 (zk_up pd p_ d2)), (f, .inr (0, [.ref t, .int (nI sp), .int (nI dp), .ref fa, .ref fb, .int (nI fc), .int (nI le), .int (nI di)])), (fa, zk_a cI 38 fl), (fb, zk_a cI 38 fd)]) := by
  refine zk_enterV RX1 cX1_weighMatches 8 (by decide) rfl rfl (Nat.le_of_ble_eq_true rfl) ?_
  intro p e s m args below meth c ls A Q hx hb hml hown hts hP hK hD hN hl hA hS hret
  have hl : lv_has ls 8 [(0, .ref k_), (1, .int (nI p_)), (2, .ref f)] := hl
  have f9 := hts (.fieldLink RX1 9 "MatchFinders$Plan" "costs" "[I") (by decide +kernel)
  have f15 := hts (.fieldLink RX1 15 "MatchFinders$Plan" "lengths" "[I") (by decide +kernel)
  have f18 := hts (.fieldLink RX1 18 "MatchFinders$Plan" "distances" "[I") (by decide +kernel)
  have f41 := hts (.fieldLink RX1 41 "MatchFinders$Finder" "frontCount" "I") (by decide +kernel)
  have f44 := hts (.fieldLink RX1 44 "MatchFinders$Finder" "frontDistances" "[I") (by decide +kernel)
  have f51 := hts (.fieldLink RX1 51 "MatchFinders$Finder" "frontLengths" "[I") (by decide +kernel)
  refine lv_iconst (v := (nI 3)) hx hb dX1_weighMatches_0 (by decide +kernel) ?_
  refine lv_istore_n (lv' := [(3, .int (nI 3)), (0, .ref k_), (1, .int (nI p_)), (2, .ref f)]) hx hb dX1_weighMatches_1 rfl hl (by decide) rfl (fun ls hl => ?_)
  refine lv_iconst (v := (nI 0)) hx hb dX1_weighMatches_2 (by decide +kernel) ?_
  refine lv_istore (lv' := [(4, .int (nI 0)), (3, .int (nI 3)), (0, .ref k_), (1, .int (nI p_)), (2, .ref f)]) hx hb dX1_weighMatches_3 hl (by decide) rfl (fun ls hl => ?_)
  have hP : va_P D vwCl [(k_, .inr (1, [.ref ka, .ref kb, .ref kd])), (ka, zk_a cI 301 (zk_up co p_ (co p_))), (kb, zk_a cI 300 (zk_up pn p_ (pn p_))), (kd, zk_a cI 300 (zk_up pd p_ (pd p_))), (f, .inr (0, [.ref t, .int (nI sp), .int (nI dp), .ref fa, .ref fb, .int (nI fc), .int (nI le), .int (nI di)])), (fa, zk_a cI 38 fl), (fb, zk_a cI 38 fd)] s.heap := by rw [zk_up_self, zk_up_self, zk_up_self]; exact hP
  have L5 : ∀ (n : Nat) (l1 : Nat) (k1 : Nat) (cs : Nat) (ln1 : Nat) (ds1 : Nat) (ls : Array Slot) (H : Heap) (locs : List Loc), (∀ j, j < k1 → fl j < l1) → (k1 ≤ fc) → (3 ≤ l1) → (l1 ≤ 41) → (cs ≤ 3000) → (zr_w co p_ (zr_ls F) (41 - l1) l1 cs ln1 ds1 = zr_w co p_ (zr_ls F) 38 3 (co p_) (pn p_) (pd p_)) → (fc - k1) < n → va_P D vwCl [(k_, .inr (1, [.ref ka, .ref kb, .ref kd])), (ka, zk_a cI 301 (zk_up co p_ cs)), (kb, zk_a cI 300 (zk_up pn p_ ln1)), (kd, zk_a cI 300 (zk_up pd p_ ds1)), (f, .inr (0, [.ref t, .int (nI sp), .int (nI dp), .ref fa, .ref fb, .int (nI fc), .int (nI le), .int (nI di)])), (fa, zk_a cI 38 fl), (fb, zk_a cI 38 fd)] H → va_S A s.heap H locs → lv_has ls 8 [(0, .ref k_), (1, .int (nI p_)), (2, .ref f), (3, .int (nI l1)), (4, .int (nI k1))] → W p l e rmX1_weighMatches s m args below meth c H locs 0 0 Q (F0 m 5 ls []) := by
    intro n
    induction n with
    | zero => intro l1 k1 cs ln1 ds1 ls H locs g5_0 g5_1 g5_2 g5_3 g5_4 g5_5 hm hP hS hl; exact absurd hm (by omega)
    | succ n ih5 =>
      intro l1 k1 cs ln1 ds1 ls H locs g5_0 g5_1 g5_2 g5_3 g5_4 g5_5 hm hP hS hl
      refine lv_iload hx hb dX1_weighMatches_5 (lv_at hl 4 rfl) ?_
      refine lv_aload_n hx hb dX1_weighMatches_7 rfl (lv_at hl 2 rfl) ?_
      refine va_get (D := D) (ci := 0) (v := .int (nI fc)) (C := RX0) (T := TX0) (N := 8) hx hb hts ziX1_weighMatches_0 hown hK hP 4 rfl rfl 5 (by decide) f41 (fun _ h9 => h9) rfl dX1_weighMatches_8 ?_
      refine zk_icmp_ge (tgt := 109) hx hb (by omega) (by omega) dX1_weighMatches_11 (by decide) (fun c_1 => ?_) (fun c_1 => ?_)
      · skip
        have hkf : k1 = fc := by omega
        subst hkf
        have hno : ∀ i, l1 ≤ i → zr_ls F i = 0 := fun i hi => zr_ls_no F i (zk_isb h0 (fun j hj => Nat.lt_of_lt_of_le (g5_0 j hj) hi))
        exact hret _ ls _ _ (cs, ln1, ds1) dX1_weighMatches_109 (by rw [← g5_5]; exact zr_w_no _ _ _ _ _ hno) hP hS
      · skip
        have hx1 := h1 _ (zr_is_mem h0 (k := k1) (by omega))
        have hx2 : fl k1 ≤ mo := hx1.2.1
        have hx3 : 1 ≤ fd k1 := hx1.2.2.1
        have hx4 : fd k1 ≤ 300 := hx1.2.2.2
        refine lv_aload_n hx hb dX1_weighMatches_14 rfl (lv_at hl 2 rfl) ?_
        refine va_get (D := D) (ci := 0) (v := .ref fb) (C := RX0) (T := TX0) (N := 8) hx hb hts ziX1_weighMatches_0 hown hK hP 4 rfl rfl 4 (by decide) f44 (fun _ h9 => h9) rfl dX1_weighMatches_15 ?_
        refine lv_iload hx hb dX1_weighMatches_18 (lv_at hl 4 rfl) ?_
        refine zk_ild (v := fd k1) hx hb hK hP 6 0 (i := k1) (g := fd) rfl rfl (by omega) (by decide) rfl dX1_weighMatches_20 ?_
        refine zk_nm (fun dd h_dd => ?_)
        refine lv_istore (lv' := [(5, .int (nI dd)), (0, .ref k_), (1, .int (nI p_)), (2, .ref f), (3, .int (nI l1)), (4, .int (nI k1))]) hx hb dX1_weighMatches_21 hl (by decide) rfl (fun ls hl => ?_)
        refine lv_iconst (v := (nI 2)) hx hb dX1_weighMatches_23 (by decide +kernel) ?_
        refine lv_iload hx hb dX1_weighMatches_24 (lv_at hl 0 rfl) ?_
        refine zk_rdSN (As := [.int (nI dd)]) (rest := [.int (nI 2)]) ⟨hx, hb, hml, hown, hts⟩ hN (c_gammaBits l D cI cZ cR dd (by omega)) ⟨va_cnB 1 hts gX1_weighMatches_X4_gammaBits_n47 rfl rfl rfl hN.1 (hts (.initialized RX4) (by decide +kernel)) (by decide +kernel) ⟨Nat.le_of_ble_eq_true rfl, Nat.le_of_ble_eq_true rfl⟩, hts (.static yX4_gammaBits) (by decide +kernel), trivial⟩ hK hP (zk_D hD rfl) [] rfl (by decide) rfl hl.1 rfl (Nat.le_of_ble_eq_true rfl) dX1_weighMatches_26 ⟨Nat.zero_le _, Nat.zero_le _⟩ ?_
        refine zk_add (v := 2 + (zr_G dd)) hx hb (rfl) dX1_weighMatches_29 ?_
        refine zk_nm (fun db h_db => ?_)
        have hgd := zr_Gb dd
        refine lv_istore (lv' := [(6, .int (nI db)), (5, .int (nI dd)), (0, .ref k_), (1, .int (nI p_)), (2, .ref f), (3, .int (nI l1)), (4, .int (nI k1))]) hx hb dX1_weighMatches_30 hl (by decide) rfl (fun ls hl => ?_)
        have L32 : ∀ (n : Nat) (l2 : Nat) (cs2 : Nat) (ln2 : Nat) (ds2 : Nat) (ls : Array Slot) (H : Heap) (locs : List Loc), (l1 ≤ l2) → (3 ≤ l2) → (l2 ≤ 41) → (cs2 ≤ 3000) → (zr_w co p_ (zr_ls F) (41 - l2) l2 cs2 ln2 ds2 = zr_w co p_ (zr_ls F) 38 3 (co p_) (pn p_) (pd p_)) → (41 - l2) < n → va_P D vwCl [(k_, .inr (1, [.ref ka, .ref kb, .ref kd])), (ka, zk_a cI 301 (zk_up co p_ cs2)), (kb, zk_a cI 300 (zk_up pn p_ ln2)), (kd, zk_a cI 300 (zk_up pd p_ ds2)), (f, .inr (0, [.ref t, .int (nI sp), .int (nI dp), .ref fa, .ref fb, .int (nI fc), .int (nI le), .int (nI di)])), (fa, zk_a cI 38 fl), (fb, zk_a cI 38 fd)] H → va_S A s.heap H locs → lv_has ls 8 [(0, .ref k_), (1, .int (nI p_)), (2, .ref f), (3, .int (nI l2)), (4, .int (nI k1)), (5, .int (nI dd)), (6, .int (nI db))] → W p l e rmX1_weighMatches s m args below meth c H locs 0 0 Q (F0 m 32 ls []) := by
          intro n
          induction n with
          | zero => intro l2 cs2 ln2 ds2 ls H locs g32_0 g32_1 g32_2 g32_3 g32_4 hm hP hS hl; exact absurd hm (by omega)
          | succ n ih32 =>
            intro l2 cs2 ln2 ds2 ls H locs g32_0 g32_1 g32_2 g32_3 g32_4 hm hP hS hl
            refine lv_iload_n hx hb dX1_weighMatches_32 rfl (lv_at hl 3 rfl) ?_
            refine lv_aload_n hx hb dX1_weighMatches_33 rfl (lv_at hl 2 rfl) ?_
            refine va_get (D := D) (ci := 0) (v := .ref fa) (C := RX0) (T := TX0) (N := 8) hx hb hts ziX1_weighMatches_0 hown hK hP 4 rfl rfl 3 (by decide) f51 (fun _ h9 => h9) rfl dX1_weighMatches_34 ?_
            refine lv_iload hx hb dX1_weighMatches_37 (lv_at hl 4 rfl) ?_
            refine zk_ild (v := fl k1) hx hb hK hP 5 0 (i := k1) (g := fl) rfl rfl (by omega) (by decide) rfl dX1_weighMatches_39 ?_
            refine zk_icmp_gt (tgt := 103) hx hb (by omega) (by omega) dX1_weighMatches_40 (by decide) (fun c_2 => ?_) (fun c_2 => ?_)
            · skip
              refine lv_iinc (v := (nI (k1 + 1))) (lv' := [(4, .int (nI (k1 + 1))), (0, .ref k_), (1, .int (nI p_)), (2, .ref f), (3, .int (nI l2)), (5, .int (nI dd)), (6, .int (nI db))]) hx hb dX1_weighMatches_103 hl (k := 4) rfl (by rw [show Int32.ofInt 1 = (1 : Int32) from rfl, nI_1]) (by decide) rfl (fun ls hl => ?_)
              refine lv_goto (tgt := 5) hx hb dX1_weighMatches_106 (by decide) ?_
              exact ih5 l2 (k1 + 1) cs2 ln2 ds2 ls _ _ (zk_lts g5_0 (by omega) (by omega)) (by omega) (by omega) (by omega) (by omega) g32_4 (by omega) hP hS (lv_sub hl [1, 2, 3, 4, 0] rfl)
            · skip
              have hls : zr_ls F l2 = dd := by rw [h_dd]; exact zr_ls_is h0 (by omega) (by omega) (fun j hj => Nat.lt_of_lt_of_le (g5_0 j hj) g32_0)
              have hg1 := zr_Gb dd
              have hg2 := zr_Gb (l2 - 2)
              have hco := h6 l2 (by omega)
              refine lv_iload hx hb dX1_weighMatches_43 (lv_at hl 6 rfl) ?_
              refine lv_iload_n hx hb dX1_weighMatches_45 rfl (lv_at hl 3 rfl) ?_
              refine lv_iconst (v := (nI 2)) hx hb dX1_weighMatches_46 (by decide +kernel) ?_
              refine zk_sub (v := l2 - 2) hx hb (by omega) dX1_weighMatches_47 ?_
              refine zk_rdSN (As := [.int (nI (l2 - 2))]) (rest := [.int (nI db)]) ⟨hx, hb, hml, hown, hts⟩ hN (c_gammaBits l D cI cZ cR (l2 - 2) (by omega)) ⟨va_cnB 1 hts gX1_weighMatches_X4_gammaBits_n47 rfl rfl rfl hN.1 (hts (.initialized RX4) (by decide +kernel)) (by decide +kernel) ⟨Nat.le_of_ble_eq_true rfl, Nat.le_of_ble_eq_true rfl⟩, hts (.static yX4_gammaBits) (by decide +kernel), trivial⟩ hK hP (zk_D hD rfl) [] rfl (by decide) rfl hl.1 rfl (Nat.le_of_ble_eq_true rfl) dX1_weighMatches_48 ⟨Nat.zero_le _, Nat.zero_le _⟩ ?_
              refine zk_add (v := db + (zr_G (l2 - 2))) hx hb (rfl) dX1_weighMatches_51 ?_
              refine lv_aload_n hx hb dX1_weighMatches_52 rfl (lv_at hl 0 rfl) ?_
              refine va_get (D := D) (ci := 1) (v := .ref ka) (C := RX1) (T := TX1) (N := 3) hx hb hts ziX1_weighMatches_1 hown hK hP 0 rfl rfl 0 (by decide) f9 (fun _ h9 => h9) rfl dX1_weighMatches_53 ?_
              refine lv_iload_n hx hb dX1_weighMatches_56 rfl (lv_at hl 1 rfl) ?_
              refine lv_iload_n hx hb dX1_weighMatches_57 rfl (lv_at hl 3 rfl) ?_
              refine zk_add (v := p_ + l2) hx hb (rfl) dX1_weighMatches_58 ?_
              refine zk_ild (v := (zk_up co p_ cs2) (p_ + l2)) hx hb hK hP 1 0 (i := p_ + l2) (g := zk_up co p_ cs2) rfl rfl (by omega) (by decide) rfl dX1_weighMatches_59 ?_
              refine zk_top (congrArg nI (zk_up_ne (g := co) (x := cs2) (show p_ + l2 ≠ p_ by omega))) ?_
              refine zk_add (v := (db + (zr_G (l2 - 2))) + (co (p_ + l2))) hx hb (rfl) dX1_weighMatches_60 ?_
              refine zk_nm (fun cc h_cc => ?_)
              refine lv_istore (lv' := [(7, .int (nI cc)), (0, .ref k_), (1, .int (nI p_)), (2, .ref f), (3, .int (nI l2)), (4, .int (nI k1)), (5, .int (nI dd)), (6, .int (nI db))]) hx hb dX1_weighMatches_61 hl (by decide) rfl (fun ls hl => ?_)
              refine lv_iload hx hb dX1_weighMatches_63 (lv_at hl 0 rfl) ?_
              refine lv_aload_n hx hb dX1_weighMatches_65 rfl (lv_at hl 1 rfl) ?_
              refine va_get (D := D) (ci := 1) (v := .ref ka) (C := RX1) (T := TX1) (N := 3) hx hb hts ziX1_weighMatches_1 hown hK hP 0 rfl rfl 0 (by decide) f9 (fun _ h9 => h9) rfl dX1_weighMatches_66 ?_
              refine lv_iload_n hx hb dX1_weighMatches_69 rfl (lv_at hl 2 rfl) ?_
              refine zk_ild (v := (zk_up co p_ cs2) p_) hx hb hK hP 1 0 (i := p_) (g := zk_up co p_ cs2) rfl rfl (by omega) (by decide) rfl dX1_weighMatches_70 ?_
              refine zk_top (congrArg nI (zk_up_eq co p_ cs2)) ?_
              refine zk_icmp_gt (tgt := 97) hx hb (by omega) (by omega) dX1_weighMatches_71 (by decide) (fun c_3 => ?_) (fun c_3 => ?_)
              · skip
                refine lv_iinc (v := (nI (l2 + 1))) (lv' := [(3, .int (nI (l2 + 1))), (7, .int (nI cc)), (0, .ref k_), (1, .int (nI p_)), (2, .ref f), (4, .int (nI k1)), (5, .int (nI dd)), (6, .int (nI db))]) hx hb dX1_weighMatches_97 hl (k := 4) rfl (by rw [show Int32.ofInt 1 = (1 : Int32) from rfl, nI_1]) (by decide) rfl (fun ls hl => ?_)
                refine lv_goto (tgt := 32) hx hb dX1_weighMatches_100 (by decide) ?_
                exact ih32 (l2 + 1) cs2 ln2 ds2 ls _ _ (by omega) (by omega) (by omega) (by omega) (by rw [← g32_4, zr_w_kp (n := 41 - l2) (k := 41 - (l2 + 1)) (d := dd) (c := cc) hls (by omega) (by omega) (by omega) (by omega)]) (by omega) hP hS (lv_sub hl [2, 3, 4, 0, 5, 6, 7] rfl)
              · skip
                refine lv_aload_n hx hb dX1_weighMatches_74 rfl (lv_at hl 1 rfl) ?_
                refine va_get (D := D) (ci := 1) (v := .ref ka) (C := RX1) (T := TX1) (N := 3) hx hb hts ziX1_weighMatches_1 hown hK hP 0 rfl rfl 0 (by decide) f9 (fun _ h9 => h9) rfl dX1_weighMatches_75 ?_
                refine lv_iload_n hx hb dX1_weighMatches_78 rfl (lv_at hl 2 rfl) ?_
                refine lv_iload hx hb dX1_weighMatches_79 (lv_at hl 0 rfl) ?_
                refine zk_ist (i := p_) (x := cc) (g := zk_up co p_ cs2) hx hb hK hP (zk_D hD rfl) hS 1 0 rfl rfl (by omega) (by decide) dX1_weighMatches_81 (fun H locs hP hS => ?_)
                have hP : va_P D vwCl [(k_, .inr (1, [.ref ka, .ref kb, .ref kd])), (ka, zk_a cI 301 (zk_up (zk_up co p_ cs2) p_ cc)), (kb, zk_a cI 300 (zk_up pn p_ ln2)), (kd, zk_a cI 300 (zk_up pd p_ ds2)), (f, .inr (0, [.ref t, .int (nI sp), .int (nI dp), .ref fa, .ref fb, .int (nI fc), .int (nI le), .int (nI di)])), (fa, zk_a cI 38 fl), (fb, zk_a cI 38 fd)] H := hP
                rw [zk_up_up] at hP
                have hP : va_P D vwCl [(k_, .inr (1, [.ref ka, .ref kb, .ref kd])), (ka, zk_a cI 301 (zk_up co p_ cc)), (kb, zk_a cI 300 (zk_up pn p_ ln2)), (kd, zk_a cI 300 (zk_up pd p_ ds2)), (f, .inr (0, [.ref t, .int (nI sp), .int (nI dp), .ref fa, .ref fb, .int (nI fc), .int (nI le), .int (nI di)])), (fa, zk_a cI 38 fl), (fb, zk_a cI 38 fd)] H := hP
                refine lv_aload_n hx hb dX1_weighMatches_82 rfl (lv_at hl 1 rfl) ?_
                refine va_get (D := D) (ci := 1) (v := .ref kb) (C := RX1) (T := TX1) (N := 3) hx hb hts ziX1_weighMatches_1 hown hK hP 0 rfl rfl 1 (by decide) f15 (fun _ h9 => h9) rfl dX1_weighMatches_83 ?_
                refine lv_iload_n hx hb dX1_weighMatches_86 rfl (lv_at hl 2 rfl) ?_
                refine lv_iload_n hx hb dX1_weighMatches_87 rfl (lv_at hl 4 rfl) ?_
                refine zk_ist (i := p_) (x := l2) (g := zk_up pn p_ ln2) hx hb hK hP (zk_D hD rfl) hS 2 0 rfl rfl (by omega) (by decide) dX1_weighMatches_88 (fun H locs hP hS => ?_)
                have hP : va_P D vwCl [(k_, .inr (1, [.ref ka, .ref kb, .ref kd])), (ka, zk_a cI 301 (zk_up co p_ cc)), (kb, zk_a cI 300 (zk_up (zk_up pn p_ ln2) p_ l2)), (kd, zk_a cI 300 (zk_up pd p_ ds2)), (f, .inr (0, [.ref t, .int (nI sp), .int (nI dp), .ref fa, .ref fb, .int (nI fc), .int (nI le), .int (nI di)])), (fa, zk_a cI 38 fl), (fb, zk_a cI 38 fd)] H := hP
                rw [zk_up_up] at hP
                have hP : va_P D vwCl [(k_, .inr (1, [.ref ka, .ref kb, .ref kd])), (ka, zk_a cI 301 (zk_up co p_ cc)), (kb, zk_a cI 300 (zk_up pn p_ l2)), (kd, zk_a cI 300 (zk_up pd p_ ds2)), (f, .inr (0, [.ref t, .int (nI sp), .int (nI dp), .ref fa, .ref fb, .int (nI fc), .int (nI le), .int (nI di)])), (fa, zk_a cI 38 fl), (fb, zk_a cI 38 fd)] H := hP
                refine lv_aload_n hx hb dX1_weighMatches_89 rfl (lv_at hl 1 rfl) ?_
                refine va_get (D := D) (ci := 1) (v := .ref kd) (C := RX1) (T := TX1) (N := 3) hx hb hts ziX1_weighMatches_1 hown hK hP 0 rfl rfl 2 (by decide) f18 (fun _ h9 => h9) rfl dX1_weighMatches_90 ?_
                refine lv_iload_n hx hb dX1_weighMatches_93 rfl (lv_at hl 2 rfl) ?_
                refine lv_iload hx hb dX1_weighMatches_94 (lv_at hl 6 rfl) ?_
                refine zk_ist (i := p_) (x := dd) (g := zk_up pd p_ ds2) hx hb hK hP (zk_D hD rfl) hS 3 0 rfl rfl (by omega) (by decide) dX1_weighMatches_96 (fun H locs hP hS => ?_)
                have hP : va_P D vwCl [(k_, .inr (1, [.ref ka, .ref kb, .ref kd])), (ka, zk_a cI 301 (zk_up co p_ cc)), (kb, zk_a cI 300 (zk_up pn p_ l2)), (kd, zk_a cI 300 (zk_up (zk_up pd p_ ds2) p_ dd)), (f, .inr (0, [.ref t, .int (nI sp), .int (nI dp), .ref fa, .ref fb, .int (nI fc), .int (nI le), .int (nI di)])), (fa, zk_a cI 38 fl), (fb, zk_a cI 38 fd)] H := hP
                rw [zk_up_up] at hP
                have hP : va_P D vwCl [(k_, .inr (1, [.ref ka, .ref kb, .ref kd])), (ka, zk_a cI 301 (zk_up co p_ cc)), (kb, zk_a cI 300 (zk_up pn p_ l2)), (kd, zk_a cI 300 (zk_up pd p_ dd)), (f, .inr (0, [.ref t, .int (nI sp), .int (nI dp), .ref fa, .ref fb, .int (nI fc), .int (nI le), .int (nI di)])), (fa, zk_a cI 38 fl), (fb, zk_a cI 38 fd)] H := hP
                refine lv_iinc (v := (nI (l2 + 1))) (lv' := [(3, .int (nI (l2 + 1))), (7, .int (nI cc)), (0, .ref k_), (1, .int (nI p_)), (2, .ref f), (4, .int (nI k1)), (5, .int (nI dd)), (6, .int (nI db))]) hx hb dX1_weighMatches_97 hl (k := 4) rfl (by rw [show Int32.ofInt 1 = (1 : Int32) from rfl, nI_1]) (by decide) rfl (fun ls hl => ?_)
                refine lv_goto (tgt := 32) hx hb dX1_weighMatches_100 (by decide) ?_
                exact ih32 (l2 + 1) cc l2 dd ls _ _ (by omega) (by omega) (by omega) (by omega) (by rw [← g32_4, zr_w_up (n := 41 - l2) (k := 41 - (l2 + 1)) (d := dd) (c := cc) hls (by omega) (by omega) (by omega) (by omega)]) (by omega) hP hS (lv_sub hl [2, 3, 4, 0, 5, 6, 7] rfl)
        exact L32 (41 - l1 + 1) l1 cs ln1 ds1 ls _ _ (by omega) (by omega) (by omega) (by omega) g5_5 (by omega) hP hS (lv_sub hl [2, 3, 4, 5, 6, 1, 0] rfl)
  exact L5 (fc - 0 + 1) 3 0 (co p_) (pn p_) (pd p_) ls _ _ (fun j hj => absurd hj (by omega)) (by omega) (by omega) (by omega) (show co p_ ≤ 3000 from h6 0 (by omega)) rfl (by omega) hP hS (lv_sub hl [2, 3, 4, 1, 0] rfl)
def rmX1_make : Room := { frames := 3, cells := 0, slots := 0, locals := 68 }
set_option maxRecDepth 20000 in
theorem ziX1_make_0 : ∀ w ∈ wsX00, w ∈ wsX1_make := by decide +kernel
set_option maxRecDepth 20000 in
theorem ziX1_make_1 : ∀ w ∈ wsX10, w ∈ wsX1_make := by decide +kernel
set_option maxRecDepth 20000 in
theorem ziX1_make_3 : ∀ w ∈ wsX30, w ∈ wsX1_make := by decide +kernel
set_option maxHeartbeats 4000000 in
set_option maxRecDepth 100000 in
/-- Plan.make -/
theorem c_make (l : Launch) (D : va_G) (cI cZ cR : ClassId) (k_ : Nat) (ka : Nat) (kb : Nat) (kd : Nat) (co : Nat → Nat) (pn : Nat → Nat) (pd : Nat → Nat) (f : Nat) (sp : Nat) (dp : Nat) (fa : Nat) (fb : Nat) (fc : Nat) (le : Nat) (di : Nat) (fl : Nat → Nat) (fd : Nat → Nat) (t : Nat) (b : Nat) (ah : Nat) (sz : Nat) (g : Nat → Nat) (h0 : ah ≤ 60) (h1 : sz ≤ 300) (h2 : sp ≤ 300) (h3 : ∀ j, g j < 256) : zk_Wv l yX1_make wsX1_make rmX1_make D (zk_t cI cZ cR) [.ref k_, .ref f] [(k_, .inr (1, [.ref ka, .ref kb, .ref kd])), (ka, zk_a cI 301 co), (kb, zk_a cI 300 pn), (kd, zk_a cI 300 pd), (f, .inr (0, [.ref t, .int (nI sp), .int (nI dp), .ref fa, .ref fb, .int (nI fc), .int (nI le), .int (nI di)])), (fa, zk_a cI 38 fl), (fb, zk_a cI 38 fd), (t, .inr (3, [.ref b, .int (nI ah), .int (nI sz)])), (b, zk_a cI 360 g)] (fun u : (Nat → Nat) × (Nat → Nat) × (Nat → Nat) × (Nat → Nat) × (Nat → Nat) × Nat => match u with | (co2, pn2, pd2, fl2, fd2, fc2) => zr_DP (fun q => zr_F g (ah + q) (min 40 (sz - q)) (min sp (ah + q))) sz 0 co2 pn2 pd2) (fun u => match u with | (co2, pn2, pd2, fl2, fd2, fc2) => [(k_, .inr (1, [.ref ka, .ref kb, .ref kd])), (ka, zk_a cI 301 co2), (kb, zk_a cI 300 pn2), (kd, zk_a cI 300 pd2), (f, .inr (0, [.ref t, .int (nI sp), .int (nI dp), .ref fa, .ref fb, .int (nI fc2), .int (nI le), .int (nI di)])), (fa, zk_a cI 38 fl2), (fb, zk_a cI 38 fd2), (t, .inr (3, [.ref b, .int (nI ah), .int (nI sz)])), (b, zk_a cI 360 g)]) := by
  refine zk_enterV RX1 cX1_make 4 (by decide) rfl rfl (Nat.le_of_ble_eq_true rfl) ?_
  intro p e s m args below meth c ls A Q hx hb hml hown hts hP hK hD hN hl hA hS hret
  have hl : lv_has ls 4 [(0, .ref k_), (1, .ref f)] := hl
  have f9 := hts (.fieldLink RX1 9 "MatchFinders$Plan" "costs" "[I") (by decide +kernel)
  have f15 := hts (.fieldLink RX1 15 "MatchFinders$Plan" "lengths" "[I") (by decide +kernel)
  have f18 := hts (.fieldLink RX1 18 "MatchFinders$Plan" "distances" "[I") (by decide +kernel)
  have f21 := hts (.fieldLink RX1 21 "MatchFinders$Finder" "text" "LMatchFinders$Text;") (by decide +kernel)
  have f27 := hts (.fieldLink RX1 27 "MatchFinders$Text" "size" "I") (by decide +kernel)
  refine lv_aload_n hx hb dX1_make_0 rfl (lv_at hl 1 rfl) ?_
  refine va_get (D := D) (ci := 0) (v := .ref t) (C := RX0) (T := TX0) (N := 8) hx hb hts ziX1_make_0 hown hK hP 4 rfl rfl 0 (by decide) f21 (fun _ h9 => h9) rfl dX1_make_1 ?_
  refine va_get (D := D) (ci := 3) (v := .int (nI sz)) (C := RX3) (T := TX3) (N := 3) hx hb hts ziX1_make_3 hown hK hP 7 rfl rfl 2 (by decide) f27 (fun _ h9 => h9) rfl dX1_make_4 ?_
  refine lv_istore_n (lv' := [(2, .int (nI sz)), (0, .ref k_), (1, .ref f)]) hx hb dX1_make_7 rfl hl (by decide) rfl (fun ls hl => ?_)
  refine lv_aload_n hx hb dX1_make_8 rfl (lv_at hl 1 rfl) ?_
  refine va_get (D := D) (ci := 1) (v := .ref ka) (C := RX1) (T := TX1) (N := 3) hx hb hts ziX1_make_1 hown hK hP 0 rfl rfl 0 (by decide) f9 (fun _ h9 => h9) rfl dX1_make_9 ?_
  refine lv_iload_n hx hb dX1_make_12 rfl (lv_at hl 0 rfl) ?_
  refine lv_iconst (v := (nI 0)) hx hb dX1_make_13 (by decide +kernel) ?_
  refine zk_ist (i := sz) (x := 0) (g := co) hx hb hK hP (zk_D hD rfl) hS 1 0 rfl rfl (by omega) (by decide) dX1_make_14 (fun H locs hP hS => ?_)
  have hP : va_P D vwCl [(k_, .inr (1, [.ref ka, .ref kb, .ref kd])), (ka, zk_a cI 301 (zk_up co sz 0)), (kb, zk_a cI 300 pn), (kd, zk_a cI 300 pd), (f, .inr (0, [.ref t, .int (nI sp), .int (nI dp), .ref fa, .ref fb, .int (nI fc), .int (nI le), .int (nI di)])), (fa, zk_a cI 38 fl), (fb, zk_a cI 38 fd), (t, .inr (3, [.ref b, .int (nI ah), .int (nI sz)])), (b, zk_a cI 360 g)] H := hP
  refine lv_iload_n hx hb dX1_make_15 rfl (lv_at hl 0 rfl) ?_
  refine lv_iconst (v := (nI 1)) hx hb dX1_make_16 (by decide +kernel) ?_
  refine lv_isub hx hb dX1_make_17 ?_
  refine lv_istore_n (lv' := [(3, .int ((nI sz) - (nI 1))), (2, .int (nI sz)), (0, .ref k_), (1, .ref f)]) hx hb dX1_make_18 rfl hl (by decide) rfl (fun ls hl => ?_)
  have L19 : ∀ (n : Nat) (q : Nat) (co1 : Nat → Nat) (pn1 : Nat → Nat) (pd1 : Nat → Nat) (fl1 : Nat → Nat) (fd1 : Nat → Nat) (fc1 : Nat) (ls : Array Slot) (H : Heap) (locs : List Loc), (q ≤ sz) → (zr_DP (fun q => zr_F g (ah + q) (min 40 (sz - q)) (min sp (ah + q))) sz q co1 pn1 pd1) → (q) < n → va_P D vwCl [(k_, .inr (1, [.ref ka, .ref kb, .ref kd])), (ka, zk_a cI 301 co1), (kb, zk_a cI 300 pn1), (kd, zk_a cI 300 pd1), (f, .inr (0, [.ref t, .int (nI sp), .int (nI dp), .ref fa, .ref fb, .int (nI fc1), .int (nI le), .int (nI di)])), (fa, zk_a cI 38 fl1), (fb, zk_a cI 38 fd1), (t, .inr (3, [.ref b, .int (nI ah), .int (nI sz)])), (b, zk_a cI 360 g)] H → va_S A s.heap H locs → lv_has ls 4 [(0, .ref k_), (1, .ref f), (2, .int (nI sz)), (3, .int ((nI q) - (nI 1)))] → W p l e rmX1_make s m args below meth c H locs 0 0 Q (F0 m 19 ls []) := by
    intro n
    induction n with
    | zero => intro q co1 pn1 pd1 fl1 fd1 fc1 ls H locs g19_0 g19_1 hm hP hS hl; exact absurd hm (by omega)
    | succ n ih19 =>
      intro q co1 pn1 pd1 fl1 fd1 fc1 ls H locs g19_0 g19_1 hm hP hS hl
      refine lv_iload_n hx hb dX1_make_19 rfl (lv_at hl 3 rfl) ?_
      refine lv_if_lt (tgt := 71) hx hb dX1_make_20 (by decide) (fun c_1 => ?_) (fun c_1 => ?_)
      · skip
        have hq := zk_pr_lt (by omega) c_1
        subst hq
        exact hret _ ls _ _ (co1, pn1, pd1, fl1, fd1, fc1) dX1_make_71 g19_1 hP hS
      · skip
        have hq := zk_pr_ge (by omega) c_1
        obtain ⟨p, rfl⟩ : ∃ p, q = p + 1 := ⟨q - 1, by omega⟩
        rw [zk_pr_s] at hl
        refine lv_aload_n hx hb dX1_make_23 rfl (lv_at hl 0 rfl) ?_
        refine va_get (D := D) (ci := 1) (v := .ref ka) (C := RX1) (T := TX1) (N := 3) hx hb hts ziX1_make_1 hown hK hP 0 rfl rfl 0 (by decide) f9 (fun _ h9 => h9) rfl dX1_make_24 ?_
        refine lv_iload_n hx hb dX1_make_27 rfl (lv_at hl 3 rfl) ?_
        refine lv_bipush (v := (nI 9)) hx hb dX1_make_28 (by decide +kernel) ?_
        refine lv_aload_n hx hb dX1_make_30 rfl (lv_at hl 0 rfl) ?_
        refine va_get (D := D) (ci := 1) (v := .ref ka) (C := RX1) (T := TX1) (N := 3) hx hb hts ziX1_make_1 hown hK hP 0 rfl rfl 0 (by decide) f9 (fun _ h9 => h9) rfl dX1_make_31 ?_
        refine lv_iload_n hx hb dX1_make_34 rfl (lv_at hl 3 rfl) ?_
        refine lv_iconst (v := (nI 1)) hx hb dX1_make_35 (by decide +kernel) ?_
        refine zk_add (v := p + 1) hx hb (rfl) dX1_make_36 ?_
        refine zk_ild (v := co1 (p + 1)) hx hb hK hP 1 0 (i := p + 1) (g := co1) rfl rfl (by omega) (by decide) rfl dX1_make_37 ?_
        refine zk_add (v := 9 + (co1 (p + 1))) hx hb (rfl) dX1_make_38 ?_
        refine zk_ist (i := p) (x := 9 + (co1 (p + 1))) (g := co1) hx hb hK hP (zk_D hD rfl) hS 1 0 rfl rfl (by omega) (by decide) dX1_make_39 (fun H locs hP hS => ?_)
        have hP : va_P D vwCl [(k_, .inr (1, [.ref ka, .ref kb, .ref kd])), (ka, zk_a cI 301 (zk_up co1 p (9 + (co1 (p + 1))))), (kb, zk_a cI 300 pn1), (kd, zk_a cI 300 pd1), (f, .inr (0, [.ref t, .int (nI sp), .int (nI dp), .ref fa, .ref fb, .int (nI fc1), .int (nI le), .int (nI di)])), (fa, zk_a cI 38 fl1), (fb, zk_a cI 38 fd1), (t, .inr (3, [.ref b, .int (nI ah), .int (nI sz)])), (b, zk_a cI 360 g)] H := hP
        refine lv_aload_n hx hb dX1_make_40 rfl (lv_at hl 0 rfl) ?_
        refine va_get (D := D) (ci := 1) (v := .ref kb) (C := RX1) (T := TX1) (N := 3) hx hb hts ziX1_make_1 hown hK hP 0 rfl rfl 1 (by decide) f15 (fun _ h9 => h9) rfl dX1_make_41 ?_
        refine lv_iload_n hx hb dX1_make_44 rfl (lv_at hl 3 rfl) ?_
        refine lv_iconst (v := (nI 1)) hx hb dX1_make_45 (by decide +kernel) ?_
        refine zk_ist (i := p) (x := 1) (g := pn1) hx hb hK hP (zk_D hD rfl) hS 2 0 rfl rfl (by omega) (by decide) dX1_make_46 (fun H locs hP hS => ?_)
        have hP : va_P D vwCl [(k_, .inr (1, [.ref ka, .ref kb, .ref kd])), (ka, zk_a cI 301 (zk_up co1 p (9 + (co1 (p + 1))))), (kb, zk_a cI 300 (zk_up pn1 p 1)), (kd, zk_a cI 300 pd1), (f, .inr (0, [.ref t, .int (nI sp), .int (nI dp), .ref fa, .ref fb, .int (nI fc1), .int (nI le), .int (nI di)])), (fa, zk_a cI 38 fl1), (fb, zk_a cI 38 fd1), (t, .inr (3, [.ref b, .int (nI ah), .int (nI sz)])), (b, zk_a cI 360 g)] H := hP
        refine lv_aload_n hx hb dX1_make_47 rfl (lv_at hl 0 rfl) ?_
        refine va_get (D := D) (ci := 1) (v := .ref kd) (C := RX1) (T := TX1) (N := 3) hx hb hts ziX1_make_1 hown hK hP 0 rfl rfl 2 (by decide) f18 (fun _ h9 => h9) rfl dX1_make_48 ?_
        refine lv_iload_n hx hb dX1_make_51 rfl (lv_at hl 3 rfl) ?_
        refine lv_iconst (v := (nI 0)) hx hb dX1_make_52 (by decide +kernel) ?_
        refine zk_ist (i := p) (x := 0) (g := pd1) hx hb hK hP (zk_D hD rfl) hS 3 0 rfl rfl (by omega) (by decide) dX1_make_53 (fun H locs hP hS => ?_)
        have hP : va_P D vwCl [(k_, .inr (1, [.ref ka, .ref kb, .ref kd])), (ka, zk_a cI 301 (zk_up co1 p (9 + (co1 (p + 1))))), (kb, zk_a cI 300 (zk_up pn1 p 1)), (kd, zk_a cI 300 (zk_up pd1 p 0)), (f, .inr (0, [.ref t, .int (nI sp), .int (nI dp), .ref fa, .ref fb, .int (nI fc1), .int (nI le), .int (nI di)])), (fa, zk_a cI 38 fl1), (fb, zk_a cI 38 fd1), (t, .inr (3, [.ref b, .int (nI ah), .int (nI sz)])), (b, zk_a cI 360 g)] H := hP
        refine lv_aload_n hx hb dX1_make_54 rfl (lv_at hl 1 rfl) ?_
        refine lv_iload_n hx hb dX1_make_55 rfl (lv_at hl 3 rfl) ?_
        refine zk_wrV (As := [.int (nI p)]) (rest := []) ⟨hx, hb, hml, hown, hts⟩ hN (c_gatherFront l D cI cZ cR f sp dp fa fb fc1 le di fl1 fd1 t b ah sz g p (by omega) (by omega) (by omega) (by omega) h3) (cwV 1 hts gX1_make_X0_gatherFront rfl rfl rfl (by decide +kernel) ⟨Nat.le_of_ble_eq_true rfl, Nat.le_of_ble_eq_true rfl⟩) hK hP (zk_D hD rfl) hS hA [4, 5, 6, 7, 8] rfl (by decide) (fun _ => rfl) rfl rfl rfl rfl hl.1 rfl (Nat.le_of_ble_eq_true rfl) dX1_make_56 ⟨Nat.zero_le _, Nat.zero_le _⟩ (fun u H locs hu1 hP hS => ?_)
        obtain ⟨fl9, fd9, fc9⟩ := u
        have hu1 : zr_is (zr_F g (ah + p) (min 40 (sz - p)) (min sp (ah + p))) fl9 fd9 fc9 := hu1
        have hP : va_P D vwCl [(k_, .inr (1, [.ref ka, .ref kb, .ref kd])), (ka, zk_a cI 301 (zk_up co1 p (9 + (co1 (p + 1))))), (kb, zk_a cI 300 (zk_up pn1 p 1)), (kd, zk_a cI 300 (zk_up pd1 p 0)), (f, .inr (0, [.ref t, .int (nI sp), .int (nI dp), .ref fa, .ref fb, .int (nI fc9), .int (nI le), .int (nI di)])), (fa, zk_a cI 38 fl9), (fb, zk_a cI 38 fd9), (t, .inr (3, [.ref b, .int (nI ah), .int (nI sz)])), (b, zk_a cI 360 g)] H := hP
        refine lv_aload_n hx hb dX1_make_59 rfl (lv_at hl 0 rfl) ?_
        refine lv_iload_n hx hb dX1_make_60 rfl (lv_at hl 3 rfl) ?_
        refine lv_aload_n hx hb dX1_make_61 rfl (lv_at hl 1 rfl) ?_
        have hFm : ∀ x, x ∈ zr_F g (ah + p) (min 40 (sz - p)) (min sp (ah + p)) → 3 ≤ x.1 ∧ x.1 ≤ min 40 (sz - p) ∧ 1 ≤ x.2 ∧ x.2 ≤ 300 := fun x hx => by
          have h9 := zr_F_mem hx
          exact ⟨h9.1, h9.2.1, h9.2.2.1, by have h8 := h9.2.2.2.1; omega⟩
        have hfc := zr_is_len hu1
        have hcb : ∀ i, i ≤ min 40 (sz - p) → zk_up co1 p (9 + co1 (p + 1)) (p + i) ≤ 3000 := fun i hi => by
          by_cases hi0 : i = 0
          · subst hi0; show zk_up co1 p (9 + co1 (p + 1)) p ≤ 3000; rw [zk_up_eq]; have h8 := zr_DP_le g19_1 _ (p + 1) rfl (by omega) (by omega); omega
          · rw [zk_up_ne (by omega)]; have h8 := zr_DP_le g19_1 _ (p + i) rfl (by omega) (by omega); omega
        refine zk_wrV (As := [.int (nI p), .ref f]) (rest := []) ⟨hx, hb, hml, hown, hts⟩ hN (c_weighMatches l D cI cZ cR k_ ka kb kd (zk_up co1 p (9 + (co1 (p + 1)))) (zk_up pn1 p 1) (zk_up pd1 p 0) f sp dp fa fb fc9 le di fl9 fd9 t p (min 40 (sz - p)) (zr_F g (ah + p) (min 40 (sz - p)) (min sp (ah + p))) hu1 hFm (by omega) (by omega) (by omega) (by omega) hcb) (cwV 2 hts gX1_make_X1_weighMatches rfl rfl rfl (by decide +kernel) ⟨Nat.le_of_ble_eq_true rfl, Nat.le_of_ble_eq_true rfl⟩) hK hP (zk_D hD rfl) hS hA [0, 1, 2, 3, 4, 5, 6] rfl (by decide) (fun _ => rfl) rfl rfl rfl rfl hl.1 rfl (Nat.le_of_ble_eq_true rfl) dX1_make_62 ⟨Nat.zero_le _, Nat.zero_le _⟩ (fun u H locs hu2 hP hS => ?_)
        obtain ⟨c9, l9, d9⟩ := u
        have hu2 : zr_w (zk_up co1 p (9 + (co1 (p + 1)))) p (zr_ls (zr_F g (ah + p) (min 40 (sz - p)) (min sp (ah + p)))) 38 3 ((zk_up co1 p (9 + (co1 (p + 1)))) p) ((zk_up pn1 p 1) p) ((zk_up pd1 p 0) p) = (c9, l9, d9) := hu2
        have hP : va_P D vwCl [(k_, .inr (1, [.ref ka, .ref kb, .ref kd])), (ka, zk_a cI 301 (zk_up (zk_up co1 p (9 + (co1 (p + 1)))) p c9)), (kb, zk_a cI 300 (zk_up (zk_up pn1 p 1) p l9)), (kd, zk_a cI 300 (zk_up (zk_up pd1 p 0) p d9)), (f, .inr (0, [.ref t, .int (nI sp), .int (nI dp), .ref fa, .ref fb, .int (nI fc9), .int (nI le), .int (nI di)])), (fa, zk_a cI 38 fl9), (fb, zk_a cI 38 fd9), (t, .inr (3, [.ref b, .int (nI ah), .int (nI sz)])), (b, zk_a cI 360 g)] H := hP
        rw [zk_up_up, zk_up_up, zk_up_up] at hP
        have hP : va_P D vwCl [(k_, .inr (1, [.ref ka, .ref kb, .ref kd])), (ka, zk_a cI 301 (zk_up co1 p c9)), (kb, zk_a cI 300 (zk_up pn1 p l9)), (kd, zk_a cI 300 (zk_up pd1 p d9)), (f, .inr (0, [.ref t, .int (nI sp), .int (nI dp), .ref fa, .ref fb, .int (nI fc9), .int (nI le), .int (nI di)])), (fa, zk_a cI 38 fl9), (fb, zk_a cI 38 fd9), (t, .inr (3, [.ref b, .int (nI ah), .int (nI sz)])), (b, zk_a cI 360 g)] H := hP
        have hdp : zr_DP (fun q => zr_F g (ah + q) (min 40 (sz - q)) (min sp (ah + q))) sz p (zk_up co1 p c9) (zk_up pn1 p l9) (zk_up pd1 p d9) := zr_DP_up g19_1 (by omega) (by
          rw [zk_up_eq, zk_up_eq, zk_up_eq] at hu2
          rw [← hu2]
          exact zr_w_co (fun i hi => (zk_up_ne (by omega)).symm) 38 3 _ 1 0 (by omega))
        refine lv_iinc (v := ((nI p) - (nI 1))) (lv' := [(3, .int ((nI p) - (nI 1))), (0, .ref k_), (1, .ref f), (2, .int (nI sz))]) hx hb dX1_make_65 hl (k := 3) rfl (zk_dec _) (by decide) rfl (fun ls hl => ?_)
        refine lv_goto (tgt := 19) hx hb dX1_make_68 (by decide) ?_
        exact ih19 p (zk_up co1 p c9) (zk_up pn1 p l9) (zk_up pd1 p d9) fl9 fd9 fc9 ls _ _ (by omega) hdp (by omega) hP hS (lv_sub hl [1, 2, 3, 0] rfl)
  exact L19 (sz + 1) sz (zk_up co sz 0) pn pd fl fd fc ls _ _ (by omega) ⟨zk_up_eq _ _ _, fun p h1 h2 => absurd h1 (by omega)⟩ (by omega) hP hS (lv_sub hl [2, 3, 1, 0] rfl)
