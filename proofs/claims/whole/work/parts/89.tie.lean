/-! Class and reference: one text, one row. -/
def zr_eq (g g' : Nat → Nat) (n : Nat) : Prop := ∀ j, j < n → g j = g' j
theorem zr_reach_cg {g g' : Nat → Nat} : ∀ (n a b : Nat), (∀ j, j < n → g (a + j) = g' (a + j)) → (∀ j, j < n → g (b + j) = g' (b + j)) → zr_reach g a b n = zr_reach g' a b n
  | 0, _, _, _, _ => rfl
  | n + 1, a, b, h1, h2 => by
    have ha : g a = g' a := h1 0 (by omega)
    have hb : g b = g' b := h2 0 (by omega)
    have ih := zr_reach_cg (g := g) (g' := g') n (a + 1) (b + 1) (fun j hj => by have := h1 (j + 1) (by omega); rw [show a + 1 + j = a + (j + 1) by omega]; exact this) (fun j hj => by have := h2 (j + 1) (by omega); rw [show b + 1 + j = b + (j + 1) by omega]; exact this)
    rw [zr_reach, zr_reach, ha, hb, ih]
theorem zr_reach_fe {g g' : Nat → Nat} {ah sz q : Nat} (h : zr_eq g g' (ah + sz)) : (fun d => zr_reach g (ah + q) (ah + q - d) (min 40 (sz - q))) = (fun d => zr_reach g' (ah + q) (ah + q - d) (min 40 (sz - q))) := by
  funext d
  exact zr_reach_cg _ _ _ (fun j hj => h _ (by omega)) (fun j hj => h _ (by omega))
theorem zr_Fp_cg {g g' : Nat → Nat} {ah sz : Nat} (sp : Nat) (h : zr_eq g g' (ah + sz)) : zr_Fp g ah sz sp = zr_Fp g' ah sz sp := by
  funext q
  unfold zr_Fp zr_F
  rw [zr_reach_fe h]
theorem zr_s0_cg {g g' : Nat → Nat} {ah sz : Nat} (sp : Nat) (h : zr_eq g g' (ah + sz)) : zr_s0 g ah sz sp = zr_s0 g' ah sz sp := by
  funext q
  unfold zr_s0
  rw [zr_Fp_cg sp h]
theorem zr_s1_cg {g g' : Nat → Nat} {ah sz : Nat} (sp dp : Nat) (h : zr_eq g g' (ah + sz)) : zr_s1 g ah sz sp dp = zr_s1 g' ah sz sp dp := by
  funext q
  unfold zr_s1
  rw [zr_reach_fe h]
theorem zr_s2_cg {g g' : Nat → Nat} {ah sz : Nat} (sp : Nat) (h : zr_eq g g' (ah + sz)) : zr_s2 g ah sz sp = zr_s2 g' ah sz sp := by
  funext q
  unfold zr_s2
  rw [zr_s0_cg sp h]
theorem zr_ok_cg {w : Nat} {g g' : Nat → Nat} {ah sz sp dp : Nat} {sel : Nat → Nat × Nat} (h : zr_eq g g' (ah + sz)) (k : zr_ok w g ah sz sp dp sel) : zr_ok w g' ah sz sp dp sel := by
  unfold zr_ok zr_sel at k ⊢
  rw [zr_Fp_cg sp h, zr_s0_cg sp h, zr_s1_cg sp dp h, zr_s2_cg sp h] at k
  exact k
theorem zr_row_cg {w : Nat} {g g' : Nat → Nat} {ah sz sp dp ct pb bw rc : Nat} {pl ln ds : Nat → Nat} (h : zr_eq g g' (ah + sz)) (k : zr_row w g ah sz sp dp ct pb bw rc pl ln ds) : zr_row w g' ah sz sp dp ct pb bw rc pl ln ds := by
  obtain ⟨sel, la, se, th, k1, k2, k3⟩ := k
  exact ⟨sel, la, se, th, zr_ok_cg h k1, k2, k3⟩
theorem zr_at_cg {g g' : Nat → Nat} {ah sz : Nat} (x : Int32) (ha : ah ≤ 60) (hs : sz ≤ 300) (h : zr_eq g g' (ah + sz)) : zr_at g ah sz x = zr_at g' ah sz x := by
  unfold zr_at
  by_cases h1 : x < -(nI ah)
  · rw [if_pos h1, if_pos h1]
  · rw [if_neg h1, if_neg h1]
    by_cases h2 : nI sz ≤ x
    · rw [if_pos h2, if_pos h2]
    · rw [if_neg h2, if_neg h2]
      rw [h _ (zr_at_in ha hs h1 h2).2]
theorem zr_ls_in : ∀ (F : List (Nat × Nat)) (l : Nat), 0 < zr_ls F l → ∃ x ∈ F, l ≤ x.1
  | [], l, h => by simp [zr_ls] at h
  | a :: F, l, h => by
    by_cases h1 : l ≤ a.1
    · exact ⟨a, List.mem_cons_self, h1⟩
    · rw [zr_ls, if_neg h1] at h
      obtain ⟨x, hx, hl⟩ := zr_ls_in F l h
      exact ⟨x, List.mem_cons_of_mem _ hx, hl⟩
theorem zr_w_cg {co co' : Nat → Nat} {p : Nat} {ls : Nat → Nat} (hco : ∀ i, 0 < ls i → 3 ≤ i → co (p + i) = co' (p + i)) : ∀ (n l cs ln ds : Nat), 3 ≤ l → zr_w co p ls n l cs ln ds = zr_w co' p ls n l cs ln ds
  | 0, _, _, _, _, _ => rfl
  | n + 1, l, cs, ln, ds, hl => by
    rw [zr_w, zr_w]
    by_cases h0 : 0 < ls l
    · rw [if_pos h0, if_pos h0, hco l h0 hl]
      by_cases h1 : 2 + zr_G (ls l) + zr_G (l - 2) + co' (p + l) ≤ cs
      · rw [if_pos h1, if_pos h1]; exact zr_w_cg hco n _ _ _ _ (by omega)
      · rw [if_neg h1, if_neg h1]; exact zr_w_cg hco n _ _ _ _ (by omega)
    · rw [if_neg h0, if_neg h0]; exact zr_w_cg hco n _ _ _ _ (by omega)
theorem zr_DP_u {g : Nat → Nat} {ah sz sp : Nat} {co ln ds co' ln' ds' : Nat → Nat} (h : zr_DP (zr_Fp g ah sz sp) sz 0 co ln ds) (h' : zr_DP (zr_Fp g ah sz sp) sz 0 co' ln' ds') : ∀ q, q < sz → ln q = ln' q ∧ ds q = ds' q := by
  have key : ∀ n, ∀ q, q ≤ sz → sz - q ≤ n → co q = co' q := by
    intro n
    induction n with
    | zero =>
      intro q h1 h2
      have : q = sz := by omega
      subst this
      rw [h.1, h'.1]
    | succ n ih =>
      intro q h1 h2
      by_cases hq : q = sz
      · subst hq
        rw [h.1, h'.1]
      · have e1 := h.2 q (Nat.zero_le _) (by omega)
        have e2 := h'.2 q (Nat.zero_le _) (by omega)
        rw [ih (q + 1) (by omega) (by omega), zr_w_cg (co' := co') (fun i hi h3 => by
          obtain ⟨x, hx, hl⟩ := zr_ls_in _ _ hi
          have := (zr_F_mem hx).2.1
          exact ih (q + i) (by omega) (by omega)) 38 3 _ _ _ (by omega), e2] at e1
        exact (Prod.mk.inj e1).1.symm
  intro q hq
  have e1 := h.2 q (Nat.zero_le _) hq
  have e2 := h'.2 q (Nat.zero_le _) hq
  rw [key sz (q + 1) (by omega) (by omega), zr_w_cg (co' := co') (fun i hi h3 => by
    obtain ⟨x, hx, hl⟩ := zr_ls_in _ _ hi
    have := (zr_F_mem hx).2.1
    exact key sz (q + i) (by omega) (by omega)) 38 3 _ _ _ (by omega), e2] at e1
  have e3 := (Prod.mk.inj (Prod.mk.inj e1).2)
  exact ⟨e3.1.symm, e3.2.symm⟩
theorem zr_ok_u {w : Nat} {g : Nat → Nat} {ah sz sp dp : Nat} {sel sel' : Nat → Nat × Nat} (h : zr_ok w g ah sz sp dp sel) (h' : zr_ok w g ah sz sp dp sel') : ∀ q, q < sz → sel q = sel' q := by
  unfold zr_ok at h h'
  by_cases hw : w = 3
  · rw [if_pos hw] at h h'
    obtain ⟨co, h⟩ := h
    obtain ⟨co', h'⟩ := h'
    intro q hq
    have e := zr_DP_u h h' q hq
    exact Prod.ext e.1 e.2
  · rw [if_neg hw] at h h'
    intro q hq
    rw [h q hq, h' q hq]
theorem zr_pcs_cg {sel sel' : Nat → Nat × Nat} {sz : Nat} (h : ∀ q, q < sz → sel q = sel' q) : ∀ n q, zr_pcs sel sz n q = zr_pcs sel' sz n q
  | 0, _ => rfl
  | n + 1, q => by
    rw [zr_pcs, zr_pcs]
    by_cases hq : q < sz
    · rw [if_pos hq, if_pos hq, h q hq, zr_pcs_cg h n, zr_pcs_cg h n]
    · rw [if_neg hq, if_neg hq]
theorem zr_holds_u {L : List (Nat × Nat × Nat)} {pl ln ds pl' ln' ds' : Nat → Nat} {n n' : Nat} (h : zr_holds L pl ln ds n) (h' : zr_holds L pl' ln' ds' n') : n = n' ∧ ∀ k, k < n → pl k = pl' k ∧ ln k = ln' k ∧ ds k = ds' k := by
  have e : n = n' := h.1.symm.trans h'.1
  subst e
  refine ⟨rfl, fun k hk => ?_⟩
  have e := Option.some.inj ((h.2 k hk).symm.trans (h'.2 k hk))
  have e2 := Prod.mk.inj e
  have e3 := Prod.mk.inj e2.2
  exact ⟨e2.1, e3.1, e3.2⟩
/-- the class's row and the reference's are one -/
theorem zr_row_u {w : Nat} {g g' : Nat → Nat} {ah sz sp dp ct pb bw rc ct' pb' bw' rc' : Nat} {pl ln ds pl' ln' ds' : Nat → Nat} (he : zr_eq g g' (ah + sz)) (h : zr_row w g ah sz sp dp ct pb bw rc pl ln ds) (h' : zr_row w g' ah sz sp dp ct' pb' bw' rc' pl' ln' ds') : pb = pb' ∧ bw = bw' ∧ rc = rc' := by
  obtain ⟨sel, la, se, th, k1, -, k3⟩ := zr_row_cg he h
  obtain ⟨sel', la', se', th', k1', -, k3'⟩ := h'
  rw [zr_pcs_cg (zr_ok_u k1 k1')] at k3
  have e := k3.symm.trans k3'
  have e1 := Prod.mk.inj e
  have e2 := Prod.mk.inj e1.2
  have e3 := Prod.mk.inj e2.2
  exact ⟨e1.1, e2.1, e3.1⟩
theorem zr_row_m {w : Nat} {g g' : Nat → Nat} {ah sz sp dp ct pb bw rc ct' : Nat} {pl ln ds P1 P2 P3 : Nat → Nat} (he : zr_eq g g' (ah + sz)) (h : zr_row w g ah sz sp dp ct pb bw rc pl ln ds) (h' : zr_mrow w g' ah sz sp dp ct' P1 P2 P3) :
    ct = ct' ∧ ∀ k, k < ct → pl k = P1 (300 * w + k) ∧ ln k = P2 (300 * w + k) ∧ ds k = P3 (300 * w + k) := by
  obtain ⟨sel, la, se, th, k1, k2, -⟩ := zr_row_cg he h
  obtain ⟨sel', k1', k2'⟩ := h'
  rw [zr_pcs_cg (zr_ok_u k1 k1')] at k2
  exact zr_holds_u k2 k2'
theorem zA_way_cg {w : Int32} {X Y : Nat → Int32} (h : ∀ j, j < 4 → w = nI j → X j = Y j) : zA_way w X = zA_way w Y := by
  unfold zA_way
  by_cases h1 : w < 0
  · rw [if_pos h1, if_pos h1]
  · rw [if_neg h1, if_neg h1]
    by_cases h2 : nI 4 ≤ w
    · rw [if_pos h2, if_pos h2]
    · rw [if_neg h2, if_neg h2]
      have hw : w = nI w.toNatClampNeg := by
        apply Int32.toInt_inj.mp
        rw [Int32.le_iff_toInt_le, nI_toInt (by decide)] at h2
        rw [Int32.lt_iff_toInt_lt] at h1
        have h0 : (0 : Int32).toInt = 0 := rfl
        have h3 : w.toNatClampNeg = w.toInt.toNat := rfl
        rw [h3, nI_toInt (by omega)]
        omega
      refine h _ ?_ hw
      rw [Int32.le_iff_toInt_le, nI_toInt (by decide)] at h2
      rw [Int32.lt_iff_toInt_lt] at h1
      have h0 : (0 : Int32).toInt = 0 := rfl
      have h3 : w.toNatClampNeg = w.toInt.toNat := rfl
      omega
theorem zA_piece_cg {i v : Int32} {ct : Nat} {pl ln ds pl' ln' ds' : Nat → Nat} (hc : ct < 2 ^ 31) (h : ∀ k, k < ct → pl k = pl' k ∧ ln k = ln' k ∧ ds k = ds' k) : zA_piece i v ct pl ln ds = zA_piece i v ct pl' ln' ds' := by
  unfold zA_piece
  by_cases h1 : i < 0
  · rw [if_pos h1, if_pos h1]
  · rw [if_neg h1, if_neg h1]
    by_cases h2 : nI ct ≤ i
    · rw [if_pos h2, if_pos h2]
    · rw [if_neg h2, if_neg h2]
      rw [Int32.le_iff_toInt_le, nI_toInt (by omega)] at h2
      rw [Int32.lt_iff_toInt_lt] at h1
      have h0 : (0 : Int32).toInt = 0 := rfl
      have h3 : i.toNatClampNeg = i.toInt.toNat := rfl
      obtain ⟨e1, e2, e3⟩ := h i.toNatClampNeg (by omega)
      rw [e1, e2, e3]
/-- what a step of the text makes of both sides -/
def zT_ok (T T' : Int32 × (Nat → Nat) × Nat × Nat) : Prop := T.1 = T'.1 ∧ T.2.2.1 = T'.2.2.1 ∧ T.2.2.2 = T'.2.2.2 ∧ zr_eq T.2.1 T'.2.1 (T.2.2.1 + T.2.2.2) ∧ T.2.2.1 ≤ 60 ∧ T.2.2.2 ≤ 300 ∧ ∀ j, T.2.1 j < 256
theorem zT_ok_id {r : Int32} {g g' : Nat → Nat} {ah sz : Nat} (h : zr_eq g g' (ah + sz)) (ha : ah ≤ 60) (hs : sz ≤ 300) (hg : ∀ j, g j < 256) : zT_ok (r, g, ah, sz) (r, g', ah, sz) := ⟨rfl, rfl, rfl, h, ha, hs, hg⟩
theorem zr_eq_up {g g' : Nat → Nat} {n x y : Nat} (h : zr_eq g g' n) (hx : x = y) : zr_eq (zk_up g n x) (zk_up g' n y) (n + 1) := by
  intro j hj
  subst hx
  by_cases e : j = n
  · subst e; rw [zk_up_eq, zk_up_eq]
  · rw [zk_up_ne e, zk_up_ne e]; exact h j (by omega)
theorem zT_add_ok (b : Int32) {g g' : Nat → Nat} {ah sz : Nat} (h : zr_eq g g' (ah + sz)) (ha : ah ≤ 60) (hs : sz ≤ 300) (hg : ∀ j, g j < 256) : zT_ok (zT_add b g ah sz) (zT_add b g' ah sz) := by
  unfold zT_add
  by_cases h1 : b < 0
  · rw [if_pos h1, if_pos h1]; exact zT_ok_id h ha hs hg
  · rw [if_neg h1, if_neg h1]
    by_cases h2 : b ≤ nI 255
    · rw [if_pos h2, if_pos h2]
      by_cases h3 : sz < 300
      · rw [if_pos h3, if_pos h3]
        refine ⟨rfl, rfl, rfl, zr_eq_up h rfl, ha, by show sz + 1 ≤ 300; omega, zk_up_lt hg ?_⟩
        rw [Int32.le_iff_toInt_le, nI_toInt (by decide)] at h2
        have h4 : b.toNatClampNeg = b.toInt.toNat := rfl
        omega
      · rw [if_neg h3, if_neg h3]; exact zT_ok_id h ha hs hg
    · rw [if_neg h2, if_neg h2]; exact zT_ok_id h ha hs hg
theorem zr_fb_cg {z how bk : Nat} {g g' : Nat → Nat} {ah sz : Nat} (hb : 1 ≤ bk) (h : zr_eq g g' (ah + sz)) : zr_fb z how bk g ah sz = zr_fb z how bk g' ah sz := by
  unfold zr_fb
  by_cases h1 : how = 0
  · rw [if_pos h1, if_pos h1]
  · rw [if_neg h1, if_neg h1]
    by_cases h2 : how = 1
    · rw [if_pos h2, if_pos h2]
    · rw [if_neg h2, if_neg h2]
      by_cases h3 : z % 8 = 0
      · rw [if_pos h3, if_pos h3]
      · rw [if_neg h3, if_neg h3]
        by_cases h4 : bk ≤ sz
        · rw [if_pos h4, if_pos h4]; exact h _ (by omega)
        · rw [if_neg h4, if_neg h4]
theorem zr_fl_ok {how bk ah : Nat} (hb : 1 ≤ bk) : ∀ (n : Nat) (x : Int32) (g g' : Nat → Nat) (sz : Nat), zr_eq g g' (ah + sz) → (∀ j, g j < 256) → zr_eq (zr_fl how bk ah n x g sz).1 (zr_fl how bk ah n x g' sz).1 (ah + (sz + n)) ∧ ∀ j, (zr_fl how bk ah n x g sz).1 j < 256
  | 0, _, _, _, _, h, hg => ⟨h, hg⟩
  | n + 1, x, g, g', sz, h, hg => by
    rw [zr_fl, zr_fl]
    have := zr_fl_ok (how := how) hb n (zr_nx x) _ _ (sz + 1) (zr_eq_up h (zr_fb_cg (z := zr_hi (zr_nx x)) (how := how) hb h)) (zk_up_lt hg (zr_fb_lt hg))
    rw [show sz + (n + 1) = sz + 1 + n by omega]
    exact this
theorem zT_fill_ok (n seed how : Int32) {g g' : Nat → Nat} {ah sz : Nat} (h : zr_eq g g' (ah + sz)) (ha : ah ≤ 60) (hs : sz ≤ 300) (hg : ∀ j, g j < 256) : zT_ok (zT_fill n seed how g ah sz) (zT_fill n seed how g' ah sz) := by
  unfold zT_fill
  by_cases h1 : n < nI 1
  · rw [if_pos h1, if_pos h1]; exact zT_ok_id h ha hs hg
  · rw [if_neg h1, if_neg h1]
    by_cases h2 : nI 300 < n
    · rw [if_pos h2, if_pos h2]; exact zT_ok_id h ha hs hg
    · rw [if_neg h2, if_neg h2]
      by_cases h3 : how < 0
      · rw [if_pos h3, if_pos h3]; exact zT_ok_id h ha hs hg
      · rw [if_neg h3, if_neg h3]
        by_cases h4 : how ≤ nI 2
        · rw [if_pos h4, if_pos h4]
          by_cases h5 : n.toNatClampNeg + sz ≤ 300
          · rw [if_pos h5, if_pos h5]
            have k := zr_fl_ok (how := how.toNatClampNeg) (bk := 1 + seed.toBitVec.toNat / 134217728) (ah := ah) (by omega) n.toNatClampNeg seed g g' sz h hg
            exact ⟨rfl, rfl, rfl, k.1, ha, by show sz + n.toNatClampNeg ≤ 300; omega, k.2⟩
          · rw [if_neg h5, if_neg h5]; exact zT_ok_id h ha hs hg
        · rw [if_neg h4, if_neg h4]; exact zT_ok_id h ha hs hg
theorem zT_dict_eq {g B : Nat → Nat} {ah sz : Nat} (ha : ah ≤ 60) (h : zr_eq g (zr_v B ah) (ah + sz)) : zr_eq (zr_cp g (ah + sz - min 60 sz) (min 60 sz)) (zr_v (zr_mcp B (60 - min 60 sz) (60 + sz - min 60 sz) (min 60 sz)) (min 60 sz)) (min 60 sz + 0) := by
  intro j hj
  unfold zr_cp zr_v zr_mcp
  rw [if_pos (by omega), if_pos (by omega), h _ (by omega)]
  unfold zr_v
  congr 1
  omega
theorem zr_cp_lt {g : Nat → Nat} {f i : Nat} (hg : ∀ j, g j < 256) : ∀ j, zr_cp g f i j < 256 := fun j => by
  unfold zr_cp
  split
  · exact hg _
  · exact hg _
theorem zr_mcp_lt {B : Nat → Nat} {a f i : Nat} (hg : ∀ j, B j < 256) : ∀ j, zr_mcp B a f i j < 256 := fun j => by
  unfold zr_mcp
  split
  · exact hg _
  · exact hg _
