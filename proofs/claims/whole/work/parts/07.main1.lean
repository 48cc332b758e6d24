/-! What a way takes at a place; the row of pieces; its bits. -/
section ZKF
variable {p : Program} {l : Launch} {e : Env} {R : Room} {s : State} {m : MethodId} {args : Array Value} {below : List Frame} {meth : Method} {c : Code} {H : Heap} {locs : List Loc} {cells slots : Nat} {Q : State → Prop}
variable {pc : Nat} {ls : Array Slot} {rest : List Value} {cc : ByteArray} {D : va_G} {cl : List vw_C} {tys : List (ClassId × FieldType)} {ws : va_W}
theorem zk_ald (hx : p.tables.exec = Jvm.exec) (hb : c.code = cc) (hK : va_K D cl tys s) (hP : va_P D cl ws H) (q0 t0 : Nat) {a : Nat} {cA : ClassId} {C : String} {n i y : Nat} {f : Nat → Option Nat} (ha : ws[q0]? = some (a, .inl (cA, n, .inr (.inr (.inr (.inr f)))))) (ht : tys[t0]? = some (cA, .object C)) (hi : i < n) (hn : n < 2 ^ 31) (hf : f i = some y) (hdg : decode cc pc = .ok (.aaload, 1))
    (kk : W p l e R s m args below meth c H locs cells slots Q (F0 m (pc + 1) ls (.ref y :: rest))) : W p l e R s m args below meth c H locs cells slots Q (F0 m pc ls (.int (nI i) :: .ref a :: rest)) := by
  refine va_aldq hx hb hK hP q0 t0 ha ht (vp_in_nI hi hn) hdg ?_
  rw [nI_clamp (by omega), hf]
  exact kk
end ZKF
def zr_Fp (g : Nat → Nat) (ah sz sp q : Nat) : List (Nat × Nat) := zr_F g (ah + q) (min 40 (sz - q)) (min sp (ah + q))
def zr_s0 (g : Nat → Nat) (ah sz sp q : Nat) : Nat × Nat := zr_last (zr_Fp g ah sz sp q)
def zr_s1 (g : Nat → Nat) (ah sz sp dp q : Nat) : Nat × Nat := zr_ch (fun d => zr_reach g (ah + q) (ah + q - d) (min 40 (sz - q))) dp (min sp (ah + q)) 1 0 0 0
def zr_s2 (g : Nat → Nat) (ah sz sp q : Nat) : Nat × Nat := if (zr_s0 g ah sz sp q).1 < (zr_s0 g ah sz sp (q + 1)).1 then (0, 0) else zr_s0 g ah sz sp q
def zr_sel (w : Nat) (g : Nat → Nat) (ah sz sp dp : Nat) (pn pd : Nat → Nat) (q : Nat) : Nat × Nat := if w = 0 then zr_s0 g ah sz sp q else if w = 1 then zr_s1 g ah sz sp dp q else if w = 2 then zr_s2 g ah sz sp q else (pn q, pd q)
/-- sel is what the way takes -/
def zr_ok (w : Nat) (g : Nat → Nat) (ah sz sp dp : Nat) (sel : Nat → Nat × Nat) : Prop := if w = 3 then ∃ co, zr_DP (zr_Fp g ah sz sp) sz 0 co (fun q => (sel q).1) (fun q => (sel q).2) else ∀ q, q < sz → sel q = zr_sel w g ah sz sp dp (fun _ => 0) (fun _ => 0) q
theorem zr_ok_lt {w : Nat} {g : Nat → Nat} {ah sz sp dp : Nat} {pn pd : Nat → Nat} (h : w ≤ 3) (h3 : w ≠ 3) : zr_ok w g ah sz sp dp (zr_sel w g ah sz sp dp pn pd) := by
  rw [zr_ok, if_neg h3]
  intro q _
  unfold zr_sel
  by_cases h0 : w = 0
  · rw [if_pos h0, if_pos h0]
  · by_cases h1 : w = 1
    · rw [if_neg h0, if_neg h0, if_pos h1, if_pos h1]
    · rw [if_neg h0, if_neg h0, if_neg h1, if_neg h1, if_pos (by omega), if_pos (by omega)]
theorem zr_ok_3 {w : Nat} {g : Nat → Nat} {ah sz sp dp : Nat} {co pn pd : Nat → Nat} (h3 : w = 3) (hd : zr_DP (fun q => zr_F g (ah + q) (min 40 (sz - q)) (min sp (ah + q))) sz 0 co pn pd) : zr_ok w g ah sz sp dp (zr_sel w g ah sz sp dp pn pd) := by
  subst h3
  rw [zr_ok, if_pos rfl]
  exact ⟨co, hd⟩
theorem zr_last_in {g : Nat → Nat} {ah sz sp q : Nat} (h : 3 ≤ (zr_s0 g ah sz sp q).1) : (zr_s0 g ah sz sp q).1 ≤ min 40 (sz - q) ∧ 1 ≤ (zr_s0 g ah sz sp q).2 ∧ (zr_s0 g ah sz sp q).2 ≤ sp := by
  have h0 : zr_last (zr_Fp g ah sz sp q) ≠ (0, 0) := fun h1 => by
    unfold zr_s0 at h
    rw [h1] at h
    omega
  have h1 := zr_F_mem (zr_last_mem h0)
  exact ⟨h1.2.1, h1.2.2.1, by have h2 : (zr_s0 g ah sz sp q).2 ≤ min sp (ah + q) := h1.2.2.2.1; omega⟩
theorem zr_ch_b {Rr : Nat → Nat} {mo dp : Nat} (hR : ∀ d, Rr d ≤ mo) : ∀ (n d se le di b : Nat), d + n ≤ b + 1 → (3 ≤ le → le ≤ mo ∧ 1 ≤ di ∧ di ≤ b) → 1 ≤ d → 3 ≤ (zr_ch Rr dp n d se le di).1 → (zr_ch Rr dp n d se le di).1 ≤ mo ∧ 1 ≤ (zr_ch Rr dp n d se le di).2 ∧ (zr_ch Rr dp n d se le di).2 ≤ b
  | 0, d, se, le, di, b, _, h, _, h3 => h h3
  | n + 1, d, se, le, di, b, hb, h, hd, h3 => by
    unfold zr_ch at h3 ⊢
    split
    · rename_i c1
      rw [if_pos c1] at h3
      split
      · rename_i c2
        rw [if_pos c2] at h3
        split
        · rename_i c3
          rw [if_pos c3] at h3
          exact zr_ch_b hR n (d + 1) (se + 1) (Rr d) d b (by omega) (fun _ => ⟨hR d, hd, by omega⟩) (by omega) h3
        · rename_i c3
          rw [if_neg c3] at h3
          exact zr_ch_b hR n (d + 1) (se + 1) le di b (by omega) h (by omega) h3
      · rename_i c2
        rw [if_neg c2] at h3
        exact zr_ch_b hR n (d + 1) se le di b (by omega) h (by omega) h3
    · rename_i c1
      rw [if_neg c1] at h3
      exact h h3
theorem zr_s1_in {g : Nat → Nat} {ah sz sp dp q : Nat} (h : 3 ≤ (zr_s1 g ah sz sp dp q).1) : (zr_s1 g ah sz sp dp q).1 ≤ min 40 (sz - q) ∧ 1 ≤ (zr_s1 g ah sz sp dp q).2 ∧ (zr_s1 g ah sz sp dp q).2 ≤ sp := by
  have h1 := zr_ch_b (Rr := fun d => zr_reach g (ah + q) (ah + q - d) (min 40 (sz - q))) (mo := min 40 (sz - q)) (dp := dp) (fun d => zr_reach_le g _ _ _) (min sp (ah + q)) 1 0 0 0 (min sp (ah + q)) (by omega) (fun h => absurd h (by omega)) (by omega) h
  exact ⟨h1.1, h1.2.1, by have h2 : (zr_s1 g ah sz sp dp q).2 ≤ min sp (ah + q) := h1.2.2; omega⟩
theorem zr_ls_mem : ∀ (F : List (Nat × Nat)) (l : Nat), 0 < zr_ls F l → ∃ x, x ∈ F ∧ l ≤ x.1 ∧ zr_ls F l = x.2
  | [], l, h => by simp [zr_ls] at h
  | a :: F, l, h => by
    unfold zr_ls at h ⊢
    split
    · rename_i c1
      exact ⟨a, List.mem_cons_self, c1, rfl⟩
    · rename_i c1
      rw [if_neg c1] at h
      obtain ⟨x, h1, h2, h3⟩ := zr_ls_mem F l h
      exact ⟨x, List.mem_cons_of_mem _ h1, h2, h3⟩
theorem zr_w_in {co : Nat → Nat} {p : Nat} {ls : Nat → Nat} {P : Nat → Nat → Prop} (hP : ∀ l, 0 < ls l → P l (ls l)) : ∀ (n l cs ln ds : Nat), P ln ds → P (zr_w co p ls n l cs ln ds).2.1 (zr_w co p ls n l cs ln ds).2.2
  | 0, _, _, _, _, h => h
  | n + 1, l, cs, ln, ds, h => by
    unfold zr_w
    split
    · split
      · rename_i c1 c2
        exact zr_w_in hP n (l + 1) _ _ _ (hP l c1)
      · exact zr_w_in hP n (l + 1) _ _ _ h
    · exact zr_w_in hP n (l + 1) _ _ _ h
theorem zr_ok_in {w : Nat} {g : Nat → Nat} {ah sz sp dp : Nat} {sel : Nat → Nat × Nat} (hw : w ≤ 3) (h : zr_ok w g ah sz sp dp sel) {q : Nat} (hq : q < sz) (h3 : 3 ≤ (sel q).1) : (sel q).1 ≤ min 40 (sz - q) ∧ 1 ≤ (sel q).2 ∧ (sel q).2 ≤ sp := by
  unfold zr_ok at h
  by_cases hw3 : w = 3
  · rw [if_pos hw3] at h
    obtain ⟨co, hd⟩ := h
    have h4 := hd.2 q (by omega) hq
    have h5 := zr_w_in (co := co) (p := q) (ls := zr_ls (zr_Fp g ah sz sp q)) (P := fun l d => 3 ≤ l → l ≤ min 40 (sz - q) ∧ 1 ≤ d ∧ d ≤ sp) (fun l hl _ => by
      obtain ⟨x, h6, h7, h8⟩ := zr_ls_mem _ _ hl
      have h9 := zr_F_mem h6
      rw [h8]
      exact ⟨by omega, h9.2.2.1, by have h10 := h9.2.2.2.1; omega⟩) 38 3 (9 + co (q + 1)) 1 0 (fun h => absurd h (by omega))
    rw [h4] at h5
    exact h5 h3
  · rw [if_neg hw3] at h
    have h4 := h q hq
    rw [h4] at h3 ⊢
    unfold zr_sel at h3 ⊢
    split
    · rename_i c1
      rw [if_pos c1] at h3
      exact zr_last_in h3
    · rename_i c1
      rw [if_neg c1] at h3
      split
      · rename_i c2
        rw [if_pos c2] at h3
        exact zr_s1_in h3
      · rename_i c2
        rw [if_neg c2] at h3
        rw [if_pos (by omega)] at h3 ⊢
        unfold zr_s2 at h3 ⊢
        split
        · rename_i c3
          rw [if_pos c3] at h3
          exact absurd h3 (by decide)
        · rename_i c3
          rw [if_neg c3] at h3
          exact zr_last_in h3
/-- the pieces from a place on -/
def zr_pcs (sel : Nat → Nat × Nat) (sz : Nat) : Nat → Nat → List (Nat × Nat × Nat)
  | 0, _ => []
  | n + 1, q => if q < sz then (if 3 ≤ (sel q).1 then (q, (sel q).1, (sel q).2) :: zr_pcs sel sz n (q + (sel q).1) else (q, 1, 0) :: zr_pcs sel sz n (q + 1)) else []
theorem zr_pcs_end {sel : Nat → Nat × Nat} {sz n q : Nat} (h : sz ≤ q) : zr_pcs sel sz n q = [] := by
  cases n with
  | zero => rfl
  | succ n => rw [zr_pcs, if_neg (by omega)]
theorem zr_pcs_m {sel : Nat → Nat × Nat} {sz n k q le di : Nat} (hq : q < sz) (hs : sel q = (le, di)) (h3 : 3 ≤ le) (hn : n = k + 1) : zr_pcs sel sz n q = (q, le, di) :: zr_pcs sel sz k (q + le) := by
  subst hn
  rw [zr_pcs, if_pos hq, hs, if_pos h3]
theorem zr_pcs_l {sel : Nat → Nat × Nat} {sz n k q le di : Nat} (hq : q < sz) (hs : sel q = (le, di)) (h3 : le < 3) (hn : n = k + 1) : zr_pcs sel sz n q = (q, 1, 0) :: zr_pcs sel sz k (q + 1) := by
  subst hn
  rw [zr_pcs, if_pos hq, hs, if_neg (by omega)]
abbrev zr_T : Type := Nat × Nat × Nat × Nat × Nat × Nat
def zr_st (s : zr_T) (x : Nat × Nat × Nat) : zr_T := zr_pc x.2.1 x.2.2 s.1 s.2.1 s.2.2.1 s.2.2.2.1 s.2.2.2.2.1 s.2.2.2.2.2
def zr_bits (L : List (Nat × Nat × Nat)) : zr_T := L.foldl zr_st (0, 0, 0, 0, 0, 0)
theorem zr_bits_push {L : List (Nat × Nat × Nat)} {q ln ds a b c d e f : Nat} {t : zr_T} (h : zr_bits L = (a, b, c, d, e, f)) (h2 : zr_pc ln ds a b c d e f = t) : zr_bits (L ++ [(q, ln, ds)]) = t := by
  unfold zr_bits at h ⊢
  rw [List.foldl_append, h]
  exact h2
/-- three rows of numbers hold a list of pieces -/
def zr_holds (L : List (Nat × Nat × Nat)) (pl ln ds : Nat → Nat) (n : Nat) : Prop := L.length = n ∧ ∀ k, k < n → L[k]? = some (pl k, ln k, ds k)
theorem zr_holds_0 {pl ln ds : Nat → Nat} : zr_holds [] pl ln ds 0 := ⟨rfl, fun k h => by omega⟩
theorem zr_holds_push {L : List (Nat × Nat × Nat)} {pl ln ds : Nat → Nat} {n q x y : Nat} (h : zr_holds L pl ln ds n) : zr_holds (L ++ [(q, x, y)]) (zk_up pl n q) (zk_up ln n x) (zk_up ds n y) (n + 1) := by
  obtain ⟨h1, h2⟩ := h
  refine ⟨by rw [List.length_append, h1]; rfl, fun k hk => ?_⟩
  by_cases hkn : k = n
  · subst hkn
    rw [List.getElem?_append_right (by omega), h1, Nat.sub_self, zk_up_eq, zk_up_eq, zk_up_eq]
    rfl
  · rw [List.getElem?_append_left (by omega), zk_up_ne hkn, zk_up_ne hkn, zk_up_ne hkn]
    exact h2 k (by omega)
/-- a row object holds the row of a way -/
def zr_row (w : Nat) (g : Nat → Nat) (ah sz sp dp : Nat) (ct pb bw rc : Nat) (pl ln ds : Nat → Nat) : Prop :=
  ∃ sel la se th, zr_ok w g ah sz sp dp sel ∧ zr_holds (zr_pcs sel sz sz 0) pl ln ds ct ∧ zr_bits (zr_pcs sel sz sz 0) = (pb, bw, rc, la, se, th)
theorem zr_pc_b {ln ds a b c d e f a2 b2 c2 d2 e2 f2 : Nat} (h : zr_pc ln ds a b c d e f = (a2, b2, c2, d2, e2, f2)) (h1 : ds ≤ 300) (h2 : d ≤ 300) (h3 : e ≤ 300) (h4 : f ≤ 300) : d2 ≤ 300 ∧ e2 ≤ 300 ∧ f2 ≤ 300 := by
  unfold zr_pc zr_cm zr_rem at h
  split at h
  · cases h; exact ⟨h2, h3, h4⟩
  · split at h <;> split at h <;> (try split at h) <;> cases h <;> exact ⟨by omega, by omega, by omega⟩
theorem zk_wz (a b : Prop) [Decidable a] [Decidable b] : narrow .boolean (.int (if a then nI 0 else if b then nI 0 else nI 1)) = .int (if a then nI 0 else if b then nI 0 else nI 1) := by
  by_cases h : a
  · rw [if_pos h]; decide +kernel
  · by_cases h2 : b
    · rw [if_neg h, if_pos h2]; decide +kernel
    · rw [if_neg h, if_neg h2]; decide +kernel
theorem zr_sel_le {w : Nat} {g : Nat → Nat} {ah sz sp dp : Nat} {sel : Nat → Nat × Nat} (hw : w ≤ 3) (h : zr_ok w g ah sz sp dp sel) {q le di : Nat} (hq : q < sz) (hs : sel q = (le, di)) : le ≤ 40 := by
  by_cases h3 : 3 ≤ le
  · have h1 := zr_ok_in hw h hq (by rw [hs]; exact h3)
    rw [hs] at h1
    have h2 : le ≤ min 40 (sz - q) := h1.1
    omega
  · omega
def rmX4_isWay : Room := { frames := 0, cells := 0, slots := 0, locals := 0 }
set_option maxHeartbeats 4000000 in
set_option maxRecDepth 100000 in
/-- isWay -/
theorem c_isWay (l : Launch) (D : va_G) (cI cZ cR : ClassId) (w_ : Int32) : zk_Rd l yX4_isWay wsX4_isWay rmX4_isWay D (zk_t cI cZ cR) [.int w_] [] (if w_ < 0 then nI 0 else if nI 4 ≤ w_ then nI 0 else nI 1) := by
  refine zk_enterR RX4 cX4_isWay 1 .boolean (by decide) rfl rfl (Nat.le_of_ble_eq_true rfl) (Or.inr ⟨rfl, zk_wz _ _⟩) ?_
  intro p e s m args below meth c ls Q hx hb hml hown hts hP hK hD hN hl hret
  have hl : lv_has ls 1 [(0, .int w_)] := hl
  refine lv_iload_n hx hb dX4_isWay_0 rfl (lv_at hl 0 rfl) ?_
  refine lv_if_lt (tgt := 13) hx hb dX4_isWay_1 (by decide) (fun c_1 => ?_) (fun c_1 => ?_)
  · skip
    refine lv_iconst (v := (nI 0)) hx hb dX4_isWay_13 (by decide +kernel) ?_
    exact hret _ ls _ dX4_isWay_14 (by rw [if_pos c_1])
  · skip
    refine lv_iload_n hx hb dX4_isWay_4 rfl (lv_at hl 0 rfl) ?_
    refine lv_iconst (v := (nI 4)) hx hb dX4_isWay_5 (by decide +kernel) ?_
    refine lv_icmp_ge (tgt := 13) hx hb dX4_isWay_6 (by decide) (fun c_2 => ?_) (fun c_2 => ?_)
    · skip
      refine lv_iconst (v := (nI 0)) hx hb dX4_isWay_13 (by decide +kernel) ?_
      exact hret _ ls _ dX4_isWay_14 (by rw [if_neg c_1, if_pos c_2])
    · skip
      refine lv_iconst (v := (nI 1)) hx hb dX4_isWay_9 (by decide +kernel) ?_
      refine lv_goto (tgt := 14) hx hb dX4_isWay_10 (by decide) ?_
      exact hret _ ls _ dX4_isWay_14 (by rw [if_neg c_1, if_neg c_2])
def rmX4_isPlace : Room := { frames := 0, cells := 0, slots := 0, locals := 0 }
set_option maxRecDepth 20000 in
theorem ziX4_isPlace_3 : ∀ w ∈ wsX30, w ∈ wsX4_isPlace := by decide +kernel
set_option maxRecDepth 20000 in
theorem ziX4_isPlace_4 : ∀ w ∈ wsX40, w ∈ wsX4_isPlace := by decide +kernel
set_option maxHeartbeats 4000000 in
set_option maxRecDepth 100000 in
/-- isPlace -/
theorem c_isPlace (l : Launch) (D : va_G) (cI cZ cR : ClassId) (x_ : Nat) (q_ : Nat) (f : Nat) (k_ : Nat) (t : Nat) (b : Nat) (ah : Nat) (sz : Nat) (g : Nat → Nat) (p_ : Int32) : zk_Rd l yX4_isPlace wsX4_isPlace rmX4_isPlace D (zk_t cI cZ cR) [.ref x_, .int p_] [(x_, .inr (4, [.ref t, .ref f, .ref k_, .ref q_])), (t, .inr (3, [.ref b, .int (nI ah), .int (nI sz)])), (b, zk_a cI 360 g)] (if p_ < 0 then nI 0 else if nI sz ≤ p_ then nI 0 else nI 1) := by
  refine zk_enterR RX4 cX4_isPlace 2 .boolean (by decide) rfl rfl (Nat.le_of_ble_eq_true rfl) (Or.inr ⟨rfl, zk_wz _ _⟩) ?_
  intro p e s m args below meth c ls Q hx hb hml hown hts hP hK hD hN hl hret
  have hl : lv_has ls 2 [(0, .ref x_), (1, .int p_)] := hl
  have f12 := hts (.fieldLink RX4 12 "MatchFinders" "text" "LMatchFinders$Text;") (by decide +kernel)
  have f43 := hts (.fieldLink RX4 43 "MatchFinders$Text" "size" "I") (by decide +kernel)
  refine lv_iload_n hx hb dX4_isPlace_0 rfl (lv_at hl 1 rfl) ?_
  refine lv_if_lt (tgt := 19) hx hb dX4_isPlace_1 (by decide) (fun c_1 => ?_) (fun c_1 => ?_)
  · skip
    refine lv_iconst (v := (nI 0)) hx hb dX4_isPlace_19 (by decide +kernel) ?_
    exact hret _ ls _ dX4_isPlace_20 (by rw [if_pos c_1])
  · skip
    refine lv_iload_n hx hb dX4_isPlace_4 rfl (lv_at hl 1 rfl) ?_
    refine lv_aload_n hx hb dX4_isPlace_5 rfl (lv_at hl 0 rfl) ?_
    refine va_get (D := D) (ci := 4) (v := .ref t) (C := RX4) (T := TX4) (N := 4) hx hb hts ziX4_isPlace_4 hown hK hP 0 rfl rfl 0 (by decide) f12 (fun _ h9 => h9) rfl dX4_isPlace_6 ?_
    refine va_get (D := D) (ci := 3) (v := .int (nI sz)) (C := RX3) (T := TX3) (N := 3) hx hb hts ziX4_isPlace_3 hown hK hP 1 rfl rfl 2 (by decide) f43 (fun _ h9 => h9) rfl dX4_isPlace_9 ?_
    refine lv_icmp_ge (tgt := 19) hx hb dX4_isPlace_12 (by decide) (fun c_2 => ?_) (fun c_2 => ?_)
    · skip
      refine lv_iconst (v := (nI 0)) hx hb dX4_isPlace_19 (by decide +kernel) ?_
      exact hret _ ls _ dX4_isPlace_20 (by rw [if_neg c_1, if_pos c_2])
    · skip
      refine lv_iconst (v := (nI 1)) hx hb dX4_isPlace_15 (by decide +kernel) ?_
      refine lv_goto (tgt := 20) hx hb dX4_isPlace_16 (by decide) ?_
      exact hret _ ls _ dX4_isPlace_20 (by rw [if_neg c_1, if_neg c_2])
def rmX4_forgetRows : Room := { frames := 0, cells := 0, slots := 0, locals := 0 }
set_option maxRecDepth 20000 in
theorem ziX4_forgetRows_2 : ∀ w ∈ wsX20, w ∈ wsX4_forgetRows := by decide +kernel
set_option maxRecDepth 20000 in
theorem ziX4_forgetRows_4 : ∀ w ∈ wsX40, w ∈ wsX4_forgetRows := by decide +kernel
set_option maxHeartbeats 4000000 in
set_option maxRecDepth 100000 in
/-- forgetRows -/
theorem c_forgetRows (l : Launch) (D : va_G) (cI cZ cR : ClassId) (x_ : Nat) (q_ : Nat) (t : Nat) (f : Nat) (k_ : Nat) (rf : Nat → Option Nat) (r0 : Nat) (ra0 : Nat) (rb0 : Nat) (rd0 : Nat) (ct0 : Nat) (pb0 : Nat) (bw0 : Nat) (rc0 : Nat) (to0 : Nat) (la0 : Nat) (se0 : Nat) (th0 : Nat) (r1 : Nat) (ra1 : Nat) (rb1 : Nat) (rd1 : Nat) (ct1 : Nat) (pb1 : Nat) (bw1 : Nat) (rc1 : Nat) (to1 : Nat) (la1 : Nat) (se1 : Nat) (th1 : Nat) (r2 : Nat) (ra2 : Nat) (rb2 : Nat) (rd2 : Nat) (ct2 : Nat) (pb2 : Nat) (bw2 : Nat) (rc2 : Nat) (to2 : Nat) (la2 : Nat) (se2 : Nat) (th2 : Nat) (r3 : Nat) (ra3 : Nat) (rb3 : Nat) (rd3 : Nat) (ct3 : Nat) (pb3 : Nat) (bw3 : Nat) (rc3 : Nat) (to3 : Nat) (la3 : Nat) (se3 : Nat) (th3 : Nat) (h0 : rf 0 = some r0) (h1 : rf 1 = some r1) (h2 : rf 2 = some r2) (h3 : rf 3 = some r3) : zk_Wv l yX4_forgetRows wsX4_forgetRows rmX4_forgetRows D (zk_t cI cZ cR) [.ref x_] [(x_, .inr (4, [.ref t, .ref f, .ref k_, .ref q_])), (q_, .inl (cR, 4, .inr (.inr (.inr (.inr rf))))), (r0, .inr (2, [.ref ra0, .ref rb0, .ref rd0, .int (nI ct0), .int (nI pb0), .int (nI bw0), .int (nI rc0), .int (nI to0), .int (nI la0), .int (nI se0), .int (nI th0)])), (r1, .inr (2, [.ref ra1, .ref rb1, .ref rd1, .int (nI ct1), .int (nI pb1), .int (nI bw1), .int (nI rc1), .int (nI to1), .int (nI la1), .int (nI se1), .int (nI th1)])), (r2, .inr (2, [.ref ra2, .ref rb2, .ref rd2, .int (nI ct2), .int (nI pb2), .int (nI bw2), .int (nI rc2), .int (nI to2), .int (nI la2), .int (nI se2), .int (nI th2)])), (r3, .inr (2, [.ref ra3, .ref rb3, .ref rd3, .int (nI ct3), .int (nI pb3), .int (nI bw3), .int (nI rc3), .int (nI to3), .int (nI la3), .int (nI se3), .int (nI th3)]))] (fun _ : Unit => True) (fun _ => [(x_, .inr (4, [.ref t, .ref f, .ref k_, .ref q_])), (q_, .inl (cR, 4, .inr (.inr (.inr (.inr rf))))), (r0, .inr (2, [.ref ra0, .ref rb0, .ref rd0, .int (nI ct0), .int (nI pb0), .int (nI bw0), .int (nI rc0), .int (nI 0), .int (nI la0), .int (nI se0), .int (nI th0)])), (r1, .inr (2, [.ref ra1, .ref rb1, .ref rd1, .int (nI ct1), .int (nI pb1), .int (nI bw1), .int (nI rc1), .int (nI 0), .int (nI la1), .int (nI se1), .int (nI th1)])), (r2, .inr (2, [.ref ra2, .ref rb2, .ref rd2, .int (nI ct2), .int (nI pb2), .int (nI bw2), .int (nI rc2), .int (nI 0), .int (nI la2), .int (nI se2), .int (nI th2)])), (r3, .inr (2, [.ref ra3, .ref rb3, .ref rd3, .int (nI ct3), .int (nI pb3), .int (nI bw3), .int (nI rc3), .int (nI 0), .int (nI la3), .int (nI se3), .int (nI th3)]))]) := by
  refine zk_enterV RX4 cX4_forgetRows 2 (by decide) rfl rfl (Nat.le_of_ble_eq_true rfl) ?_
  intro p e s m args below meth c ls A Q hx hb hml hown hts hP hK hD hN hl hA hS hret
  have hl : lv_has ls 2 [(0, .ref x_)] := hl
  have f38 := hts (.fieldLink RX4 38 "MatchFinders" "rows" "[LMatchFinders$Row;") (by decide +kernel)
  have f141 := hts (.fieldLink RX4 141 "MatchFinders$Row" "told" "Z") (by decide +kernel)
  refine lv_iconst (v := (nI 0)) hx hb dX4_forgetRows_0 (by decide +kernel) ?_
  refine lv_istore_n (lv' := [(1, .int (nI 0)), (0, .ref x_)]) hx hb dX4_forgetRows_1 rfl hl (by decide) rfl (fun ls hl => ?_)
  refine lv_iload_n hx hb dX4_forgetRows_2 rfl (lv_at hl 0 rfl) ?_
  refine lv_iconst (v := (nI 4)) hx hb dX4_forgetRows_3 (by decide +kernel) ?_
  refine zk_icmp_ge (tgt := 23) hx hb (by omega) (by omega) dX4_forgetRows_4 (by decide) (fun c_1 => absurd c_1 (by omega)) (fun c_1 => ?_)
  refine lv_aload_n hx hb dX4_forgetRows_7 rfl (lv_at hl 1 rfl) ?_
  refine va_get (D := D) (ci := 4) (v := .ref q_) (C := RX4) (T := TX4) (N := 4) hx hb hts ziX4_forgetRows_4 hown hK hP 0 rfl rfl 3 (by decide) f38 (fun _ h9 => h9) rfl dX4_forgetRows_8 ?_
  refine lv_iload_n hx hb dX4_forgetRows_11 rfl (lv_at hl 0 rfl) ?_
  refine zk_ald (i := 0) (y := r0) hx hb hK hP 1 2 rfl rfl (by omega) (by decide) h0 dX4_forgetRows_12 ?_
  refine lv_iconst (v := (nI 0)) hx hb dX4_forgetRows_13 (by decide +kernel) ?_
  refine va_put (D := D) (ci := 2) (v := .int (nI 0)) (ty := .boolean) (C := RX2) (T := TX2) (N := 11) hx hb hts ziX4_forgetRows_2 tyX2 tyX2_ok nmX2 hown hK hP (zk_D hD rfl) hS 2 rfl rfl 7 (by decide) f141 (fun _ h9 => h9) rfl (by decide +kernel) (by decide +kernel) (by decide +kernel) (Nat.le_of_ble_eq_true rfl) dX4_forgetRows_14 (fun H locs hP _ hS => ?_)
  have hP : va_P D vwCl [(x_, .inr (4, [.ref t, .ref f, .ref k_, .ref q_])), (q_, .inl (cR, 4, .inr (.inr (.inr (.inr rf))))), (r0, .inr (2, [.ref ra0, .ref rb0, .ref rd0, .int (nI ct0), .int (nI pb0), .int (nI bw0), .int (nI rc0), .int (nI 0), .int (nI la0), .int (nI se0), .int (nI th0)])), (r1, .inr (2, [.ref ra1, .ref rb1, .ref rd1, .int (nI ct1), .int (nI pb1), .int (nI bw1), .int (nI rc1), .int (nI to1), .int (nI la1), .int (nI se1), .int (nI th1)])), (r2, .inr (2, [.ref ra2, .ref rb2, .ref rd2, .int (nI ct2), .int (nI pb2), .int (nI bw2), .int (nI rc2), .int (nI to2), .int (nI la2), .int (nI se2), .int (nI th2)])), (r3, .inr (2, [.ref ra3, .ref rb3, .ref rd3, .int (nI ct3), .int (nI pb3), .int (nI bw3), .int (nI rc3), .int (nI to3), .int (nI la3), .int (nI se3), .int (nI th3)]))] H := hP
  refine lv_iinc (v := (nI 1)) (lv' := [(1, .int (nI 1)), (0, .ref x_)]) hx hb dX4_forgetRows_17 hl (k := 0) rfl (by rw [show Int32.ofInt 1 = (1 : Int32) from rfl, nI_1]) (by decide) rfl (fun ls hl => ?_)
  refine lv_goto (tgt := 2) hx hb dX4_forgetRows_20 (by decide) ?_
  refine lv_iload_n hx hb dX4_forgetRows_2 rfl (lv_at hl 0 rfl) ?_
  refine lv_iconst (v := (nI 4)) hx hb dX4_forgetRows_3 (by decide +kernel) ?_
  refine zk_icmp_ge (tgt := 23) hx hb (by omega) (by omega) dX4_forgetRows_4 (by decide) (fun c_2 => absurd c_2 (by omega)) (fun c_2 => ?_)
  refine lv_aload_n hx hb dX4_forgetRows_7 rfl (lv_at hl 1 rfl) ?_
  refine va_get (D := D) (ci := 4) (v := .ref q_) (C := RX4) (T := TX4) (N := 4) hx hb hts ziX4_forgetRows_4 hown hK hP 0 rfl rfl 3 (by decide) f38 (fun _ h9 => h9) rfl dX4_forgetRows_8 ?_
  refine lv_iload_n hx hb dX4_forgetRows_11 rfl (lv_at hl 0 rfl) ?_
  refine zk_ald (i := 1) (y := r1) hx hb hK hP 1 2 rfl rfl (by omega) (by decide) h1 dX4_forgetRows_12 ?_
  refine lv_iconst (v := (nI 0)) hx hb dX4_forgetRows_13 (by decide +kernel) ?_
  refine va_put (D := D) (ci := 2) (v := .int (nI 0)) (ty := .boolean) (C := RX2) (T := TX2) (N := 11) hx hb hts ziX4_forgetRows_2 tyX2 tyX2_ok nmX2 hown hK hP (zk_D hD rfl) hS 3 rfl rfl 7 (by decide) f141 (fun _ h9 => h9) rfl (by decide +kernel) (by decide +kernel) (by decide +kernel) (Nat.le_of_ble_eq_true rfl) dX4_forgetRows_14 (fun H locs hP _ hS => ?_)
  have hP : va_P D vwCl [(x_, .inr (4, [.ref t, .ref f, .ref k_, .ref q_])), (q_, .inl (cR, 4, .inr (.inr (.inr (.inr rf))))), (r0, .inr (2, [.ref ra0, .ref rb0, .ref rd0, .int (nI ct0), .int (nI pb0), .int (nI bw0), .int (nI rc0), .int (nI 0), .int (nI la0), .int (nI se0), .int (nI th0)])), (r1, .inr (2, [.ref ra1, .ref rb1, .ref rd1, .int (nI ct1), .int (nI pb1), .int (nI bw1), .int (nI rc1), .int (nI 0), .int (nI la1), .int (nI se1), .int (nI th1)])), (r2, .inr (2, [.ref ra2, .ref rb2, .ref rd2, .int (nI ct2), .int (nI pb2), .int (nI bw2), .int (nI rc2), .int (nI to2), .int (nI la2), .int (nI se2), .int (nI th2)])), (r3, .inr (2, [.ref ra3, .ref rb3, .ref rd3, .int (nI ct3), .int (nI pb3), .int (nI bw3), .int (nI rc3), .int (nI to3), .int (nI la3), .int (nI se3), .int (nI th3)]))] H := hP
  refine lv_iinc (v := (nI 2)) (lv' := [(1, .int (nI 2)), (0, .ref x_)]) hx hb dX4_forgetRows_17 hl (k := 0) rfl (by rw [show Int32.ofInt 1 = (1 : Int32) from rfl, nI_1]) (by decide) rfl (fun ls hl => ?_)
  refine lv_goto (tgt := 2) hx hb dX4_forgetRows_20 (by decide) ?_
  refine lv_iload_n hx hb dX4_forgetRows_2 rfl (lv_at hl 0 rfl) ?_
  refine lv_iconst (v := (nI 4)) hx hb dX4_forgetRows_3 (by decide +kernel) ?_
  refine zk_icmp_ge (tgt := 23) hx hb (by omega) (by omega) dX4_forgetRows_4 (by decide) (fun c_3 => absurd c_3 (by omega)) (fun c_3 => ?_)
  refine lv_aload_n hx hb dX4_forgetRows_7 rfl (lv_at hl 1 rfl) ?_
  refine va_get (D := D) (ci := 4) (v := .ref q_) (C := RX4) (T := TX4) (N := 4) hx hb hts ziX4_forgetRows_4 hown hK hP 0 rfl rfl 3 (by decide) f38 (fun _ h9 => h9) rfl dX4_forgetRows_8 ?_
  refine lv_iload_n hx hb dX4_forgetRows_11 rfl (lv_at hl 0 rfl) ?_
  refine zk_ald (i := 2) (y := r2) hx hb hK hP 1 2 rfl rfl (by omega) (by decide) h2 dX4_forgetRows_12 ?_
  refine lv_iconst (v := (nI 0)) hx hb dX4_forgetRows_13 (by decide +kernel) ?_
  refine va_put (D := D) (ci := 2) (v := .int (nI 0)) (ty := .boolean) (C := RX2) (T := TX2) (N := 11) hx hb hts ziX4_forgetRows_2 tyX2 tyX2_ok nmX2 hown hK hP (zk_D hD rfl) hS 4 rfl rfl 7 (by decide) f141 (fun _ h9 => h9) rfl (by decide +kernel) (by decide +kernel) (by decide +kernel) (Nat.le_of_ble_eq_true rfl) dX4_forgetRows_14 (fun H locs hP _ hS => ?_)
  have hP : va_P D vwCl [(x_, .inr (4, [.ref t, .ref f, .ref k_, .ref q_])), (q_, .inl (cR, 4, .inr (.inr (.inr (.inr rf))))), (r0, .inr (2, [.ref ra0, .ref rb0, .ref rd0, .int (nI ct0), .int (nI pb0), .int (nI bw0), .int (nI rc0), .int (nI 0), .int (nI la0), .int (nI se0), .int (nI th0)])), (r1, .inr (2, [.ref ra1, .ref rb1, .ref rd1, .int (nI ct1), .int (nI pb1), .int (nI bw1), .int (nI rc1), .int (nI 0), .int (nI la1), .int (nI se1), .int (nI th1)])), (r2, .inr (2, [.ref ra2, .ref rb2, .ref rd2, .int (nI ct2), .int (nI pb2), .int (nI bw2), .int (nI rc2), .int (nI 0), .int (nI la2), .int (nI se2), .int (nI th2)])), (r3, .inr (2, [.ref ra3, .ref rb3, .ref rd3, .int (nI ct3), .int (nI pb3), .int (nI bw3), .int (nI rc3), .int (nI to3), .int (nI la3), .int (nI se3), .int (nI th3)]))] H := hP
  refine lv_iinc (v := (nI 3)) (lv' := [(1, .int (nI 3)), (0, .ref x_)]) hx hb dX4_forgetRows_17 hl (k := 0) rfl (by rw [show Int32.ofInt 1 = (1 : Int32) from rfl, nI_1]) (by decide) rfl (fun ls hl => ?_)
  refine lv_goto (tgt := 2) hx hb dX4_forgetRows_20 (by decide) ?_
  refine lv_iload_n hx hb dX4_forgetRows_2 rfl (lv_at hl 0 rfl) ?_
  refine lv_iconst (v := (nI 4)) hx hb dX4_forgetRows_3 (by decide +kernel) ?_
  refine zk_icmp_ge (tgt := 23) hx hb (by omega) (by omega) dX4_forgetRows_4 (by decide) (fun c_4 => absurd c_4 (by omega)) (fun c_4 => ?_)
  refine lv_aload_n hx hb dX4_forgetRows_7 rfl (lv_at hl 1 rfl) ?_
  refine va_get (D := D) (ci := 4) (v := .ref q_) (C := RX4) (T := TX4) (N := 4) hx hb hts ziX4_forgetRows_4 hown hK hP 0 rfl rfl 3 (by decide) f38 (fun _ h9 => h9) rfl dX4_forgetRows_8 ?_
  refine lv_iload_n hx hb dX4_forgetRows_11 rfl (lv_at hl 0 rfl) ?_
  refine zk_ald (i := 3) (y := r3) hx hb hK hP 1 2 rfl rfl (by omega) (by decide) h3 dX4_forgetRows_12 ?_
  refine lv_iconst (v := (nI 0)) hx hb dX4_forgetRows_13 (by decide +kernel) ?_
  refine va_put (D := D) (ci := 2) (v := .int (nI 0)) (ty := .boolean) (C := RX2) (T := TX2) (N := 11) hx hb hts ziX4_forgetRows_2 tyX2 tyX2_ok nmX2 hown hK hP (zk_D hD rfl) hS 5 rfl rfl 7 (by decide) f141 (fun _ h9 => h9) rfl (by decide +kernel) (by decide +kernel) (by decide +kernel) (Nat.le_of_ble_eq_true rfl) dX4_forgetRows_14 (fun H locs hP _ hS => ?_)
  have hP : va_P D vwCl [(x_, .inr (4, [.ref t, .ref f, .ref k_, .ref q_])), (q_, .inl (cR, 4, .inr (.inr (.inr (.inr rf))))), (r0, .inr (2, [.ref ra0, .ref rb0, .ref rd0, .int (nI ct0), .int (nI pb0), .int (nI bw0), .int (nI rc0), .int (nI 0), .int (nI la0), .int (nI se0), .int (nI th0)])), (r1, .inr (2, [.ref ra1, .ref rb1, .ref rd1, .int (nI ct1), .int (nI pb1), .int (nI bw1), .int (nI rc1), .int (nI 0), .int (nI la1), .int (nI se1), .int (nI th1)])), (r2, .inr (2, [.ref ra2, .ref rb2, .ref rd2, .int (nI ct2), .int (nI pb2), .int (nI bw2), .int (nI rc2), .int (nI 0), .int (nI la2), .int (nI se2), .int (nI th2)])), (r3, .inr (2, [.ref ra3, .ref rb3, .ref rd3, .int (nI ct3), .int (nI pb3), .int (nI bw3), .int (nI rc3), .int (nI 0), .int (nI la3), .int (nI se3), .int (nI th3)]))] H := hP
  refine lv_iinc (v := (nI 4)) (lv' := [(1, .int (nI 4)), (0, .ref x_)]) hx hb dX4_forgetRows_17 hl (k := 0) rfl (by rw [show Int32.ofInt 1 = (1 : Int32) from rfl, nI_1]) (by decide) rfl (fun ls hl => ?_)
  refine lv_goto (tgt := 2) hx hb dX4_forgetRows_20 (by decide) ?_
  refine lv_iload_n hx hb dX4_forgetRows_2 rfl (lv_at hl 0 rfl) ?_
  refine lv_iconst (v := (nI 4)) hx hb dX4_forgetRows_3 (by decide +kernel) ?_
  refine zk_icmp_ge (tgt := 23) hx hb (by omega) (by omega) dX4_forgetRows_4 (by decide) (fun c_5 => ?_) (fun c_5 => absurd c_5 (by omega))
  exact hret _ ls _ _ () dX4_forgetRows_23 trivial hP hS
def rmX4_choose : Room := { frames := 5, cells := 0, slots := 0, locals := 111 }
set_option maxRecDepth 20000 in
theorem ziX4_choose_1 : ∀ w ∈ wsX10, w ∈ wsX4_choose := by decide +kernel
set_option maxRecDepth 20000 in
theorem ziX4_choose_4 : ∀ w ∈ wsX40, w ∈ wsX4_choose := by decide +kernel
set_option maxHeartbeats 4000000 in
set_option maxRecDepth 100000 in
/-- choose -/
theorem c_choose (l : Launch) (D : va_G) (cI cZ cR : ClassId) (x_ : Nat) (q_ : Nat) (f : Nat) (sp : Nat) (dp : Nat) (fa : Nat) (fb : Nat) (fc : Nat) (le : Nat) (di : Nat) (fl : Nat → Nat) (fd : Nat → Nat) (t : Nat) (b : Nat) (ah : Nat) (sz : Nat) (g : Nat → Nat) (k_ : Nat) (ka : Nat) (kb : Nat) (kd : Nat) (co : Nat → Nat) (pn : Nat → Nat) (pd : Nat → Nat) (w_ : Nat) (p_ : Nat) (h0 : ah ≤ 60) (h1 : sz ≤ 300) (h2 : sp ≤ 300) (h3 : dp ≤ 64) (h4 : ∀ j, g j < 256) (h5 : w_ ≤ 3) (h6 : p_ < sz) : zk_Wv l yX4_choose wsX4_choose rmX4_choose D (zk_t cI cZ cR) [.ref x_, .int (nI w_), .int (nI p_)] [(x_, .inr (4, [.ref t, .ref f, .ref k_, .ref q_])), (f, .inr (0, [.ref t, .int (nI sp), .int (nI dp), .ref fa, .ref fb, .int (nI fc), .int (nI le), .int (nI di)])), (fa, zk_a cI 38 fl), (fb, zk_a cI 38 fd), (t, .inr (3, [.ref b, .int (nI ah), .int (nI sz)])), (b, zk_a cI 360 g), (k_, .inr (1, [.ref ka, .ref kb, .ref kd])), (ka, zk_a cI 301 co), (kb, zk_a cI 300 pn), (kd, zk_a cI 300 pd)] (fun u : (Nat → Nat) × (Nat → Nat) × Nat × Nat × Nat => match u with | (fl2, fd2, fc2, le2, di2) => zr_sel w_ g ah sz sp dp pn pd p_ = (le2, di2)) (fun u => match u with | (fl2, fd2, fc2, le2, di2) => [(x_, .inr (4, [.ref t, .ref f, .ref k_, .ref q_])), (f, .inr (0, [.ref t, .int (nI sp), .int (nI dp), .ref fa, .ref fb, .int (nI fc2), .int (nI le2), .int (nI di2)])), (fa, zk_a cI 38 fl2), (fb, zk_a cI 38 fd2), (t, .inr (3, [.ref b, .int (nI ah), .int (nI sz)])), (b, zk_a cI 360 g), (k_, .inr (1, [.ref ka, .ref kb, .ref kd])), (ka, zk_a cI 301 co), (kb, zk_a cI 300 pn), (kd, zk_a cI 300 pd)]) := by
  refine zk_enterV RX4 cX4_choose 3 (by decide) rfl rfl (Nat.le_of_ble_eq_true rfl) ?_
  intro p e s m args below meth c ls A Q hx hb hml hown hts hP hK hD hN hl hA hS hret
  have hl : lv_has ls 3 [(0, .ref x_), (1, .int (nI w_)), (2, .int (nI p_))] := hl
  have f25 := hts (.fieldLink RX4 25 "MatchFinders" "finder" "LMatchFinders$Finder;") (by decide +kernel)
  have f32 := hts (.fieldLink RX4 32 "MatchFinders" "plan" "LMatchFinders$Plan;") (by decide +kernel)
  have f162 := hts (.fieldLink RX4 162 "MatchFinders$Plan" "lengths" "[I") (by decide +kernel)
  have f163 := hts (.fieldLink RX4 163 "MatchFinders$Plan" "distances" "[I") (by decide +kernel)
  refine lv_iload_n hx hb dX4_choose_0 rfl (lv_at hl 1 rfl) ?_
  rcases (show w_ = 0 ∨ w_ = 1 ∨ w_ = 2 ∨ w_ = 3 by omega) with hw | hw | hw | hw
  · subst hw
    refine lv_tableIn (off := 27) (tgt := 28) hx hb dX4_choose_1 (by decide +kernel) (by decide +kernel) (by decide +kernel) (by decide) ?_
    refine lv_aload_n hx hb dX4_choose_28 rfl (lv_at hl 0 rfl) ?_
    refine va_get (D := D) (ci := 4) (v := .ref f) (C := RX4) (T := TX4) (N := 4) hx hb hts ziX4_choose_4 hown hK hP 0 rfl rfl 1 (by decide) f25 (fun _ h9 => h9) rfl dX4_choose_29 ?_
    refine lv_iload_n hx hb dX4_choose_32 rfl (lv_at hl 2 rfl) ?_
    refine zk_wrV (As := [.int (nI p_)]) (rest := []) ⟨hx, hb, hml, hown, hts⟩ hN (c_seekLongest l D cI cZ cR f sp dp fa fb fc le di fl fd t b ah sz g p_ (by omega) (by omega) (by omega) (by omega) h4) (cwV 1 hts gX4_choose_X0_seekLongest rfl rfl rfl (by decide +kernel) ⟨Nat.le_of_ble_eq_true rfl, Nat.le_of_ble_eq_true rfl⟩) hK hP (zk_D hD rfl) hS hA [1, 2, 3, 4, 5] rfl (by decide) (fun _ => rfl) rfl rfl rfl rfl hl.1 rfl (Nat.le_of_ble_eq_true rfl) dX4_choose_33 ⟨Nat.zero_le _, Nat.zero_le _⟩ (fun u H locs hu hP hS => ?_)
    obtain ⟨fl2_1, fd2_2, fc2_3, le2_4, di2_5⟩ := u
    have hu : zr_last (zr_F g (ah + p_) (min 40 (sz - p_)) (min sp (ah + p_))) = (le2_4, di2_5) := hu
    have hP : va_P D vwCl [(x_, .inr (4, [.ref t, .ref f, .ref k_, .ref q_])), (f, .inr (0, [.ref t, .int (nI sp), .int (nI dp), .ref fa, .ref fb, .int (nI fc2_3), .int (nI le2_4), .int (nI di2_5)])), (fa, zk_a cI 38 fl2_1), (fb, zk_a cI 38 fd2_2), (t, .inr (3, [.ref b, .int (nI ah), .int (nI sz)])), (b, zk_a cI 360 g), (k_, .inr (1, [.ref ka, .ref kb, .ref kd])), (ka, zk_a cI 301 co), (kb, zk_a cI 300 pn), (kd, zk_a cI 300 pd)] H := hP
    refine lv_goto (tgt := 86) hx hb dX4_choose_36 (by decide) ?_
    exact hret _ ls _ _ (fl2_1, fd2_2, fc2_3, le2_4, di2_5) dX4_choose_86 (by rw [zr_sel, if_pos rfl]; exact hu) hP hS
  · subst hw
    refine lv_tableIn (off := 38) (tgt := 39) hx hb dX4_choose_1 (by decide +kernel) (by decide +kernel) (by decide +kernel) (by decide) ?_
    refine lv_aload_n hx hb dX4_choose_39 rfl (lv_at hl 0 rfl) ?_
    refine va_get (D := D) (ci := 4) (v := .ref f) (C := RX4) (T := TX4) (N := 4) hx hb hts ziX4_choose_4 hown hK hP 0 rfl rfl 1 (by decide) f25 (fun _ h9 => h9) rfl dX4_choose_40 ?_
    refine lv_iload_n hx hb dX4_choose_43 rfl (lv_at hl 2 rfl) ?_
    refine zk_wrV (As := [.int (nI p_)]) (rest := []) ⟨hx, hb, hml, hown, hts⟩ hN (c_seekChained l D cI cZ cR f sp dp fa fb fc le di fl fd t b ah sz g p_ (by omega) (by omega) (by omega) (by omega) h4 (by omega)) (cwV 1 hts gX4_choose_X0_seekChained rfl rfl rfl (by decide +kernel) ⟨Nat.le_of_ble_eq_true rfl, Nat.le_of_ble_eq_true rfl⟩) hK hP (zk_D hD rfl) hS hA [1, 2, 3, 4, 5] rfl (by decide) (fun _ => rfl) rfl rfl rfl rfl hl.1 rfl (Nat.le_of_ble_eq_true rfl) dX4_choose_44 ⟨Nat.zero_le _, Nat.zero_le _⟩ (fun u H locs hu hP hS => ?_)
    obtain ⟨le2_6, di2_7⟩ := u
    have hu : zr_ch (fun d => zr_reach g (ah + p_) (ah + p_ - d) (min 40 (sz - p_))) dp (min sp (ah + p_)) 1 0 0 0 = (le2_6, di2_7) := hu
    have hP : va_P D vwCl [(x_, .inr (4, [.ref t, .ref f, .ref k_, .ref q_])), (f, .inr (0, [.ref t, .int (nI sp), .int (nI dp), .ref fa, .ref fb, .int (nI fc), .int (nI le2_6), .int (nI di2_7)])), (fa, zk_a cI 38 fl), (fb, zk_a cI 38 fd), (t, .inr (3, [.ref b, .int (nI ah), .int (nI sz)])), (b, zk_a cI 360 g), (k_, .inr (1, [.ref ka, .ref kb, .ref kd])), (ka, zk_a cI 301 co), (kb, zk_a cI 300 pn), (kd, zk_a cI 300 pd)] H := hP
    refine lv_goto (tgt := 86) hx hb dX4_choose_47 (by decide) ?_
    exact hret _ ls _ _ (fl, fd, fc, le2_6, di2_7) dX4_choose_86 (by rw [zr_sel, if_neg (by decide), if_pos rfl]; exact hu) hP hS
  · subst hw
    refine lv_tableIn (off := 49) (tgt := 50) hx hb dX4_choose_1 (by decide +kernel) (by decide +kernel) (by decide +kernel) (by decide) ?_
    refine lv_aload_n hx hb dX4_choose_50 rfl (lv_at hl 0 rfl) ?_
    refine va_get (D := D) (ci := 4) (v := .ref f) (C := RX4) (T := TX4) (N := 4) hx hb hts ziX4_choose_4 hown hK hP 0 rfl rfl 1 (by decide) f25 (fun _ h9 => h9) rfl dX4_choose_51 ?_
    refine lv_iload_n hx hb dX4_choose_54 rfl (lv_at hl 2 rfl) ?_
    refine zk_wrV (As := [.int (nI p_)]) (rest := []) ⟨hx, hb, hml, hown, hts⟩ hN (c_seekLookingAhead l D cI cZ cR f sp dp fa fb fc le di fl fd t b ah sz g p_ (by omega) (by omega) (by omega) (by omega) h4) (cwV 1 hts gX4_choose_X0_seekLookingAhead rfl rfl rfl (by decide +kernel) ⟨Nat.le_of_ble_eq_true rfl, Nat.le_of_ble_eq_true rfl⟩) hK hP (zk_D hD rfl) hS hA [1, 2, 3, 4, 5] rfl (by decide) (fun _ => rfl) rfl rfl rfl rfl hl.1 rfl (Nat.le_of_ble_eq_true rfl) dX4_choose_55 ⟨Nat.zero_le _, Nat.zero_le _⟩ (fun u H locs hu hP hS => ?_)
    obtain ⟨fl2_8, fd2_9, fc2_10, le2_11, di2_12⟩ := u
    have hu : (if (zr_last (zr_F g (ah + p_) (min 40 (sz - p_)) (min sp (ah + p_)))).1 < (zr_last (zr_F g (ah + (p_ + 1)) (min 40 (sz - (p_ + 1))) (min sp (ah + (p_ + 1))))).1 then (0, 0) else zr_last (zr_F g (ah + p_) (min 40 (sz - p_)) (min sp (ah + p_)))) = (le2_11, di2_12) := hu
    have hP : va_P D vwCl [(x_, .inr (4, [.ref t, .ref f, .ref k_, .ref q_])), (f, .inr (0, [.ref t, .int (nI sp), .int (nI dp), .ref fa, .ref fb, .int (nI fc2_10), .int (nI le2_11), .int (nI di2_12)])), (fa, zk_a cI 38 fl2_8), (fb, zk_a cI 38 fd2_9), (t, .inr (3, [.ref b, .int (nI ah), .int (nI sz)])), (b, zk_a cI 360 g), (k_, .inr (1, [.ref ka, .ref kb, .ref kd])), (ka, zk_a cI 301 co), (kb, zk_a cI 300 pn), (kd, zk_a cI 300 pd)] H := hP
    refine lv_goto (tgt := 86) hx hb dX4_choose_58 (by decide) ?_
    exact hret _ ls _ _ (fl2_8, fd2_9, fc2_10, le2_11, di2_12) dX4_choose_86 (by rw [zr_sel, if_neg (by decide), if_neg (by decide), if_pos rfl]; exact hu) hP hS
  · subst hw
    refine lv_tableOut (tgt := 61) hx hb dX4_choose_1 (Or.inr (by decide +kernel)) (by decide) ?_
    refine lv_aload_n hx hb dX4_choose_61 rfl (lv_at hl 0 rfl) ?_
    refine va_get (D := D) (ci := 4) (v := .ref f) (C := RX4) (T := TX4) (N := 4) hx hb hts ziX4_choose_4 hown hK hP 0 rfl rfl 1 (by decide) f25 (fun _ h9 => h9) rfl dX4_choose_62 ?_
    refine lv_aload_n hx hb dX4_choose_65 rfl (lv_at hl 0 rfl) ?_
    refine va_get (D := D) (ci := 4) (v := .ref k_) (C := RX4) (T := TX4) (N := 4) hx hb hts ziX4_choose_4 hown hK hP 0 rfl rfl 2 (by decide) f32 (fun _ h9 => h9) rfl dX4_choose_66 ?_
    refine va_get (D := D) (ci := 1) (v := .ref kb) (C := RX1) (T := TX1) (N := 3) hx hb hts ziX4_choose_1 hown hK hP 6 rfl rfl 1 (by decide) f162 (fun _ h9 => h9) rfl dX4_choose_69 ?_
    refine lv_iload_n hx hb dX4_choose_72 rfl (lv_at hl 2 rfl) ?_
    refine zk_ild (v := pn p_) hx hb hK hP 8 0 (i := p_) (g := pn) rfl rfl (by omega) (by decide) rfl dX4_choose_73 ?_
    refine lv_aload_n hx hb dX4_choose_74 rfl (lv_at hl 0 rfl) ?_
    refine va_get (D := D) (ci := 4) (v := .ref k_) (C := RX4) (T := TX4) (N := 4) hx hb hts ziX4_choose_4 hown hK hP 0 rfl rfl 2 (by decide) f32 (fun _ h9 => h9) rfl dX4_choose_75 ?_
    refine va_get (D := D) (ci := 1) (v := .ref kd) (C := RX1) (T := TX1) (N := 3) hx hb hts ziX4_choose_1 hown hK hP 6 rfl rfl 2 (by decide) f163 (fun _ h9 => h9) rfl dX4_choose_78 ?_
    refine lv_iload_n hx hb dX4_choose_81 rfl (lv_at hl 2 rfl) ?_
    refine zk_ild (v := pd p_) hx hb hK hP 9 0 (i := p_) (g := pd) rfl rfl (by omega) (by decide) rfl dX4_choose_82 ?_
    refine zk_wrV (As := [.int (nI (pn p_)), .int (nI (pd p_))]) (rest := []) ⟨hx, hb, hml, hown, hts⟩ hN (c_take l D cI cZ cR f t sp dp fa fb fc le di (pn p_) (pd p_)) (cwV 2 hts gX4_choose_X0_take rfl rfl rfl (by decide +kernel) ⟨Nat.le_of_ble_eq_true rfl, Nat.le_of_ble_eq_true rfl⟩) hK hP (zk_D hD rfl) hS hA [1] rfl (by decide) (fun _ => rfl) rfl rfl rfl rfl hl.1 rfl (Nat.le_of_ble_eq_true rfl) dX4_choose_83 ⟨Nat.zero_le _, Nat.zero_le _⟩ (fun u H locs hu9 hP hS => ?_)
    have hP : va_P D vwCl [(x_, .inr (4, [.ref t, .ref f, .ref k_, .ref q_])), (f, .inr (0, [.ref t, .int (nI sp), .int (nI dp), .ref fa, .ref fb, .int (nI fc), .int (nI (pn p_)), .int (nI (pd p_))])), (fa, zk_a cI 38 fl), (fb, zk_a cI 38 fd), (t, .inr (3, [.ref b, .int (nI ah), .int (nI sz)])), (b, zk_a cI 360 g), (k_, .inr (1, [.ref ka, .ref kb, .ref kd])), (ka, zk_a cI 301 co), (kb, zk_a cI 300 pn), (kd, zk_a cI 300 pd)] H := hP
    exact hret _ ls _ _ (fl, fd, fc, (pn p_), (pd p_)) dX4_choose_86 (by rw [zr_sel, if_neg (by decide), if_neg (by decide), if_neg (by decide)]) hP hS
def rmX4_rowOf : Room := { frames := 6, cells := 0, slots := 0, locals := 133 }
set_option maxRecDepth 20000 in
theorem ziX4_rowOf_0 : ∀ w ∈ wsX00, w ∈ wsX4_rowOf := by decide +kernel
set_option maxRecDepth 20000 in
theorem ziX4_rowOf_2 : ∀ w ∈ wsX20, w ∈ wsX4_rowOf := by decide +kernel
set_option maxRecDepth 20000 in
theorem ziX4_rowOf_3 : ∀ w ∈ wsX30, w ∈ wsX4_rowOf := by decide +kernel
set_option maxRecDepth 20000 in
theorem ziX4_rowOf_4 : ∀ w ∈ wsX40, w ∈ wsX4_rowOf := by decide +kernel
set_option maxHeartbeats 4000000 in
set_option maxRecDepth 100000 in
/-- rowOf -/
theorem c_rowOf (l : Launch) (D : va_G) (cI cZ cR : ClassId) (x_ : Nat) (q_ : Nat) (f : Nat) (sp : Nat) (dp : Nat) (fa : Nat) (fb : Nat) (fc : Nat) (le : Nat) (di : Nat) (fl : Nat → Nat) (fd : Nat → Nat) (t : Nat) (b : Nat) (ah : Nat) (sz : Nat) (g : Nat → Nat) (k_ : Nat) (ka : Nat) (kb : Nat) (kd : Nat) (co : Nat → Nat) (pn : Nat → Nat) (pd : Nat → Nat) (rf : Nat → Option Nat) (r_ : Nat) (ra : Nat) (rb : Nat) (rd : Nat) (ct : Nat) (pb : Nat) (bw : Nat) (rc : Nat) (to : Nat) (la : Nat) (se : Nat) (th : Nat) (pl : Nat → Nat) (ln : Nat → Nat) (ds : Nat → Nat) (w_ : Nat) (h0 : ah ≤ 60) (h1 : sz ≤ 300) (h2 : sp ≤ 300) (h3 : dp ≤ 64) (h4 : ∀ j, g j < 256) (h5 : w_ ≤ 3) (h6 : rf w_ = some r_) (h7 : to = 0 ∨ (to = 1 ∧ zr_row w_ g ah sz sp dp ct pb bw rc pl ln ds)) : zk_Wr l yX4_rowOf wsX4_rowOf rmX4_rowOf D (zk_t cI cZ cR) [.ref x_, .int (nI w_)] [(x_, .inr (4, [.ref t, .ref f, .ref k_, .ref q_])), (f, .inr (0, [.ref t, .int (nI sp), .int (nI dp), .ref fa, .ref fb, .int (nI fc), .int (nI le), .int (nI di)])), (fa, zk_a cI 38 fl), (fb, zk_a cI 38 fd), (t, .inr (3, [.ref b, .int (nI ah), .int (nI sz)])), (b, zk_a cI 360 g), (k_, .inr (1, [.ref ka, .ref kb, .ref kd])), (ka, zk_a cI 301 co), (kb, zk_a cI 300 pn), (kd, zk_a cI 300 pd), (q_, .inl (cR, 4, .inr (.inr (.inr (.inr rf))))), (r_, .inr (2, [.ref ra, .ref rb, .ref rd, .int (nI ct), .int (nI pb), .int (nI bw), .int (nI rc), .int (nI to), .int (nI la), .int (nI se), .int (nI th)])), (ra, zk_a cI 300 pl), (rb, zk_a cI 300 ln), (rd, zk_a cI 300 ds)] r_ (fun u : (Nat → Nat) × (Nat → Nat) × (Nat → Nat) × (Nat → Nat) × (Nat → Nat) × Nat × Nat × Nat × (Nat → Nat) × (Nat → Nat) × (Nat → Nat) × Nat × Nat × Nat × Nat × Nat × Nat × Nat => match u with | (co2, pn2, pd2, fl2, fd2, fc2, le2, di2, pl2, ln2, ds2, ct2, pb2, bw2, rc2, la2, se2, th2) => zr_row w_ g ah sz sp dp ct2 pb2 bw2 rc2 pl2 ln2 ds2) (fun u => match u with | (co2, pn2, pd2, fl2, fd2, fc2, le2, di2, pl2, ln2, ds2, ct2, pb2, bw2, rc2, la2, se2, th2) => [(x_, .inr (4, [.ref t, .ref f, .ref k_, .ref q_])), (f, .inr (0, [.ref t, .int (nI sp), .int (nI dp), .ref fa, .ref fb, .int (nI fc2), .int (nI le2), .int (nI di2)])), (fa, zk_a cI 38 fl2), (fb, zk_a cI 38 fd2), (t, .inr (3, [.ref b, .int (nI ah), .int (nI sz)])), (b, zk_a cI 360 g), (k_, .inr (1, [.ref ka, .ref kb, .ref kd])), (ka, zk_a cI 301 co2), (kb, zk_a cI 300 pn2), (kd, zk_a cI 300 pd2), (q_, .inl (cR, 4, .inr (.inr (.inr (.inr rf))))), (r_, .inr (2, [.ref ra, .ref rb, .ref rd, .int (nI ct2), .int (nI pb2), .int (nI bw2), .int (nI rc2), .int (nI 1), .int (nI la2), .int (nI se2), .int (nI th2)])), (ra, zk_a cI 300 pl2), (rb, zk_a cI 300 ln2), (rd, zk_a cI 300 ds2)]) := by
  refine zk_enterA RX4 cX4_rowOf 6 "MatchFinders$Row" (by decide) rfl rfl (Nat.le_of_ble_eq_true rfl) ?_
  intro p e s m args below meth c ls A Q hx hb hml hown hts hP hK hD hN hl hA hS hret
  have hl : lv_has ls 6 [(0, .ref x_), (1, .int (nI w_))] := hl
  have f12 := hts (.fieldLink RX4 12 "MatchFinders" "text" "LMatchFinders$Text;") (by decide +kernel)
  have f25 := hts (.fieldLink RX4 25 "MatchFinders" "finder" "LMatchFinders$Finder;") (by decide +kernel)
  have f32 := hts (.fieldLink RX4 32 "MatchFinders" "plan" "LMatchFinders$Plan;") (by decide +kernel)
  have f38 := hts (.fieldLink RX4 38 "MatchFinders" "rows" "[LMatchFinders$Row;") (by decide +kernel)
  have f43 := hts (.fieldLink RX4 43 "MatchFinders$Text" "size" "I") (by decide +kernel)
  have f76 := hts (.fieldLink RX4 76 "MatchFinders$Finder" "length" "I") (by decide +kernel)
  have f79 := hts (.fieldLink RX4 79 "MatchFinders$Finder" "distance" "I") (by decide +kernel)
  have f141 := hts (.fieldLink RX4 141 "MatchFinders$Row" "told" "Z") (by decide +kernel)
  refine lv_aload_n hx hb dX4_rowOf_0 rfl (lv_at hl 0 rfl) ?_
  refine va_get (D := D) (ci := 4) (v := .ref q_) (C := RX4) (T := TX4) (N := 4) hx hb hts ziX4_rowOf_4 hown hK hP 0 rfl rfl 3 (by decide) f38 (fun _ h9 => h9) rfl dX4_rowOf_1 ?_
  refine lv_iload_n hx hb dX4_rowOf_4 rfl (lv_at hl 1 rfl) ?_
  refine zk_ald (i := w_) (y := r_) hx hb hK hP 10 2 rfl rfl (by omega) (by decide) h6 dX4_rowOf_5 ?_
  refine lv_astore_n (lv' := [(2, .ref r_), (0, .ref x_), (1, .int (nI w_))]) hx hb dX4_rowOf_6 rfl hl (by decide) rfl (fun ls hl => ?_)
  refine lv_aload_n hx hb dX4_rowOf_7 rfl (lv_at hl 0 rfl) ?_
  refine va_get (D := D) (ci := 2) (v := .int (nI to)) (C := RX2) (T := TX2) (N := 11) hx hb hts ziX4_rowOf_2 hown hK hP 11 rfl rfl 7 (by decide) f141 (fun _ h9 => h9) rfl dX4_rowOf_8 ?_
  refine zk_if_eq (tgt := 16) hx hb (by omega) dX4_rowOf_11 (by decide) (fun c_1 => ?_) (fun c_1 => ?_)
  · skip
    subst c_1
    have L32 : ∀  (co1 : Nat → Nat) (pn1 : Nat → Nat) (pd1 : Nat → Nat) (fl0 : Nat → Nat) (fd0 : Nat → Nat) (fc0 : Nat) (ls : Array Slot) (H : Heap) (locs : List Loc), (zr_ok w_ g ah sz sp dp (zr_sel w_ g ah sz sp dp pn1 pd1)) → va_P D vwCl [(x_, .inr (4, [.ref t, .ref f, .ref k_, .ref q_])), (f, .inr (0, [.ref t, .int (nI sp), .int (nI dp), .ref fa, .ref fb, .int (nI fc0), .int (nI le), .int (nI di)])), (fa, zk_a cI 38 fl0), (fb, zk_a cI 38 fd0), (t, .inr (3, [.ref b, .int (nI ah), .int (nI sz)])), (b, zk_a cI 360 g), (k_, .inr (1, [.ref ka, .ref kb, .ref kd])), (ka, zk_a cI 301 co1), (kb, zk_a cI 300 pn1), (kd, zk_a cI 300 pd1), (q_, .inl (cR, 4, .inr (.inr (.inr (.inr rf))))), (r_, .inr (2, [.ref ra, .ref rb, .ref rd, .int (nI ct), .int (nI pb), .int (nI bw), .int (nI rc), .int (nI 0), .int (nI la), .int (nI se), .int (nI th)])), (ra, zk_a cI 300 pl), (rb, zk_a cI 300 ln), (rd, zk_a cI 300 ds)] H → va_S A s.heap H locs → lv_has ls 6 [(0, .ref x_), (1, .int (nI w_)), (2, .ref r_)] → W p l e rmX4_rowOf s m args below meth c H locs 0 0 Q (F0 m 32 ls []) := by
      intro co1 pn1 pd1 fl0 fd0 fc0 ls H locs g32_0 hP hS hl
      refine lv_aload_n hx hb dX4_rowOf_32 rfl (lv_at hl 2 rfl) ?_
      refine zk_wrV (As := []) (rest := []) ⟨hx, hb, hml, hown, hts⟩ hN (c_begin l D cI cZ cR r_ ra rb rd ct pb bw rc 0 la se th) (cwV 0 hts gX4_rowOf_X2_begin rfl rfl rfl (by decide +kernel) ⟨Nat.le_of_ble_eq_true rfl, Nat.le_of_ble_eq_true rfl⟩) hK hP (zk_D hD rfl) hS hA [11] rfl (by decide) (fun _ => rfl) rfl rfl rfl rfl hl.1 rfl (Nat.le_of_ble_eq_true rfl) dX4_rowOf_33 ⟨Nat.zero_le _, Nat.zero_le _⟩ (fun u H locs hu1 hP hS => ?_)
      have hP : va_P D vwCl [(x_, .inr (4, [.ref t, .ref f, .ref k_, .ref q_])), (f, .inr (0, [.ref t, .int (nI sp), .int (nI dp), .ref fa, .ref fb, .int (nI fc0), .int (nI le), .int (nI di)])), (fa, zk_a cI 38 fl0), (fb, zk_a cI 38 fd0), (t, .inr (3, [.ref b, .int (nI ah), .int (nI sz)])), (b, zk_a cI 360 g), (k_, .inr (1, [.ref ka, .ref kb, .ref kd])), (ka, zk_a cI 301 co1), (kb, zk_a cI 300 pn1), (kd, zk_a cI 300 pd1), (q_, .inl (cR, 4, .inr (.inr (.inr (.inr rf))))), (r_, .inr (2, [.ref ra, .ref rb, .ref rd, .int (nI 0), .int (nI 0), .int (nI 0), .int (nI 0), .int (nI 0), .int (nI 0), .int (nI 0), .int (nI 0)])), (ra, zk_a cI 300 pl), (rb, zk_a cI 300 ln), (rd, zk_a cI 300 ds)] H := hP
      refine lv_iconst (v := (nI 0)) hx hb dX4_rowOf_36 (by decide +kernel) ?_
      refine lv_istore_n (lv' := [(3, .int (nI 0)), (0, .ref x_), (1, .int (nI w_)), (2, .ref r_)]) hx hb dX4_rowOf_37 rfl hl (by decide) rfl (fun ls hl => ?_)
      have L38 : ∀ (n : Nat) (pp : Nat) (fl1 : Nat → Nat) (fd1 : Nat → Nat) (fc1 : Nat) (le1 : Nat) (di1 : Nat) (ct1 : Nat) (pb1 : Nat) (bw1 : Nat) (rc1 : Nat) (la1 : Nat) (se1 : Nat) (th1 : Nat) (pl1 : Nat → Nat) (ln1 : Nat → Nat) (ds1 : Nat → Nat) (P : List (Nat × Nat × Nat)) (ls : Array Slot) (H : Heap) (locs : List Loc), (pp ≤ sz) → (ct1 ≤ pp) → (P ++ zr_pcs (zr_sel w_ g ah sz sp dp pn1 pd1) sz (sz - ct1) pp = zr_pcs (zr_sel w_ g ah sz sp dp pn1 pd1) sz sz 0) → (zr_holds P pl1 ln1 ds1 ct1) → (zr_bits P = (pb1, bw1, rc1, la1, se1, th1)) → (la1 ≤ 300) → (se1 ≤ 300) → (th1 ≤ 300) → (sz - pp) < n → va_P D vwCl [(x_, .inr (4, [.ref t, .ref f, .ref k_, .ref q_])), (f, .inr (0, [.ref t, .int (nI sp), .int (nI dp), .ref fa, .ref fb, .int (nI fc1), .int (nI le1), .int (nI di1)])), (fa, zk_a cI 38 fl1), (fb, zk_a cI 38 fd1), (t, .inr (3, [.ref b, .int (nI ah), .int (nI sz)])), (b, zk_a cI 360 g), (k_, .inr (1, [.ref ka, .ref kb, .ref kd])), (ka, zk_a cI 301 co1), (kb, zk_a cI 300 pn1), (kd, zk_a cI 300 pd1), (q_, .inl (cR, 4, .inr (.inr (.inr (.inr rf))))), (r_, .inr (2, [.ref ra, .ref rb, .ref rd, .int (nI ct1), .int (nI pb1), .int (nI bw1), .int (nI rc1), .int (nI 0), .int (nI la1), .int (nI se1), .int (nI th1)])), (ra, zk_a cI 300 pl1), (rb, zk_a cI 300 ln1), (rd, zk_a cI 300 ds1)] H → va_S A s.heap H locs → lv_has ls 6 [(0, .ref x_), (1, .int (nI w_)), (2, .ref r_), (3, .int (nI pp))] → W p l e rmX4_rowOf s m args below meth c H locs 0 0 Q (F0 m 38 ls []) := by
        intro n
        induction n with
        | zero => intro pp fl1 fd1 fc1 le1 di1 ct1 pb1 bw1 rc1 la1 se1 th1 pl1 ln1 ds1 P ls H locs g38_0 g38_1 g38_2 g38_3 g38_4 g38_5 g38_6 g38_7 hm hP hS hl; exact absurd hm (by omega)
        | succ n ih38 =>
          intro pp fl1 fd1 fc1 le1 di1 ct1 pb1 bw1 rc1 la1 se1 th1 pl1 ln1 ds1 P ls H locs g38_0 g38_1 g38_2 g38_3 g38_4 g38_5 g38_6 g38_7 hm hP hS hl
          refine lv_iload_n hx hb dX4_rowOf_38 rfl (lv_at hl 3 rfl) ?_
          refine lv_aload_n hx hb dX4_rowOf_39 rfl (lv_at hl 0 rfl) ?_
          refine va_get (D := D) (ci := 4) (v := .ref t) (C := RX4) (T := TX4) (N := 4) hx hb hts ziX4_rowOf_4 hown hK hP 0 rfl rfl 0 (by decide) f12 (fun _ h9 => h9) rfl dX4_rowOf_40 ?_
          refine va_get (D := D) (ci := 3) (v := .int (nI sz)) (C := RX3) (T := TX3) (N := 3) hx hb hts ziX4_rowOf_3 hown hK hP 4 rfl rfl 2 (by decide) f43 (fun _ h9 => h9) rfl dX4_rowOf_43 ?_
          refine zk_icmp_ge (tgt := 122) hx hb (by omega) (by omega) dX4_rowOf_46 (by decide) (fun c_2 => ?_) (fun c_2 => ?_)
          · skip
            refine lv_aload_n hx hb dX4_rowOf_122 rfl (lv_at hl 2 rfl) ?_
            refine lv_iconst (v := (nI 1)) hx hb dX4_rowOf_123 (by decide +kernel) ?_
            refine va_put (D := D) (ci := 2) (v := .int (nI 1)) (ty := .boolean) (C := RX2) (T := TX2) (N := 11) hx hb hts ziX4_rowOf_2 tyX2 tyX2_ok nmX2 hown hK hP (zk_D hD rfl) hS 11 rfl rfl 7 (by decide) f141 (fun _ h9 => h9) rfl (by decide +kernel) (by decide +kernel) (by decide +kernel) (Nat.le_of_ble_eq_true rfl) dX4_rowOf_124 (fun H locs hP _ hS => ?_)
            have hP : va_P D vwCl [(x_, .inr (4, [.ref t, .ref f, .ref k_, .ref q_])), (f, .inr (0, [.ref t, .int (nI sp), .int (nI dp), .ref fa, .ref fb, .int (nI fc1), .int (nI le1), .int (nI di1)])), (fa, zk_a cI 38 fl1), (fb, zk_a cI 38 fd1), (t, .inr (3, [.ref b, .int (nI ah), .int (nI sz)])), (b, zk_a cI 360 g), (k_, .inr (1, [.ref ka, .ref kb, .ref kd])), (ka, zk_a cI 301 co1), (kb, zk_a cI 300 pn1), (kd, zk_a cI 300 pd1), (q_, .inl (cR, 4, .inr (.inr (.inr (.inr rf))))), (r_, .inr (2, [.ref ra, .ref rb, .ref rd, .int (nI ct1), .int (nI pb1), .int (nI bw1), .int (nI rc1), .int (nI 1), .int (nI la1), .int (nI se1), .int (nI th1)])), (ra, zk_a cI 300 pl1), (rb, zk_a cI 300 ln1), (rd, zk_a cI 300 ds1)] H := hP
            refine lv_aload_n hx hb dX4_rowOf_127 rfl (lv_at hl 2 rfl) ?_
            exact hret _ ls _ _ (co1, pn1, pd1, fl1, fd1, fc1, le1, di1, pl1, ln1, ds1, ct1, pb1, bw1, rc1, la1, se1, th1) dX4_rowOf_128 ⟨_, la1, se1, th1, g32_0, by rw [← g38_2, zr_pcs_end (by omega), List.append_nil]; exact g38_3, by rw [← g38_2, zr_pcs_end (by omega), List.append_nil]; exact g38_4⟩ hP hS
          · skip
            refine lv_aload_n hx hb dX4_rowOf_49 rfl (lv_at hl 0 rfl) ?_
            refine lv_iload_n hx hb dX4_rowOf_50 rfl (lv_at hl 1 rfl) ?_
            refine lv_iload_n hx hb dX4_rowOf_51 rfl (lv_at hl 3 rfl) ?_
            refine zk_wrV (As := [.int (nI w_), .int (nI pp)]) (rest := []) ⟨hx, hb, hml, hown, hts⟩ hN (c_choose l D cI cZ cR x_ q_ f sp dp fa fb fc1 le1 di1 fl1 fd1 t b ah sz g k_ ka kb kd co1 pn1 pd1 w_ pp (by omega) (by omega) (by omega) (by omega) h4 (by omega) (by omega)) (cwV 2 hts gX4_rowOf_X4_choose rfl rfl rfl (by decide +kernel) ⟨Nat.le_of_ble_eq_true rfl, Nat.le_of_ble_eq_true rfl⟩) hK hP (zk_D hD rfl) hS hA [0, 1, 2, 3, 4, 5, 6, 7, 8, 9] rfl (by decide) (fun _ => rfl) rfl rfl rfl rfl hl.1 rfl (Nat.le_of_ble_eq_true rfl) dX4_rowOf_52 ⟨Nat.zero_le _, Nat.zero_le _⟩ (fun u H locs hu hP hS => ?_)
            obtain ⟨fl9, fd9, fc9, le9, di9⟩ := u
            have hu : zr_sel w_ g ah sz sp dp pn1 pd1 pp = (le9, di9) := hu
            have hP : va_P D vwCl [(x_, .inr (4, [.ref t, .ref f, .ref k_, .ref q_])), (f, .inr (0, [.ref t, .int (nI sp), .int (nI dp), .ref fa, .ref fb, .int (nI fc9), .int (nI le9), .int (nI di9)])), (fa, zk_a cI 38 fl9), (fb, zk_a cI 38 fd9), (t, .inr (3, [.ref b, .int (nI ah), .int (nI sz)])), (b, zk_a cI 360 g), (k_, .inr (1, [.ref ka, .ref kb, .ref kd])), (ka, zk_a cI 301 co1), (kb, zk_a cI 300 pn1), (kd, zk_a cI 300 pd1), (q_, .inl (cR, 4, .inr (.inr (.inr (.inr rf))))), (r_, .inr (2, [.ref ra, .ref rb, .ref rd, .int (nI ct1), .int (nI pb1), .int (nI bw1), .int (nI rc1), .int (nI 0), .int (nI la1), .int (nI se1), .int (nI th1)])), (ra, zk_a cI 300 pl1), (rb, zk_a cI 300 ln1), (rd, zk_a cI 300 ds1)] H := hP
            refine lv_aload_n hx hb dX4_rowOf_55 rfl (lv_at hl 0 rfl) ?_
            refine va_get (D := D) (ci := 4) (v := .ref f) (C := RX4) (T := TX4) (N := 4) hx hb hts ziX4_rowOf_4 hown hK hP 0 rfl rfl 1 (by decide) f25 (fun _ h9 => h9) rfl dX4_rowOf_56 ?_
            refine va_get (D := D) (ci := 0) (v := .int (nI le9)) (C := RX0) (T := TX0) (N := 8) hx hb hts ziX4_rowOf_0 hown hK hP 1 rfl rfl 6 (by decide) f76 (fun _ h9 => h9) rfl dX4_rowOf_59 ?_
            refine lv_iconst (v := (nI 3)) hx hb dX4_rowOf_62 (by decide +kernel) ?_
            have hle := zr_sel_le (by omega) g32_0 (q := pp) (by omega) hu
            refine zk_icmp_lt (tgt := 70) hx hb (by omega) (by omega) dX4_rowOf_63 (by decide) (fun c_3 => ?_) (fun c_3 => ?_)
            · skip
              have hse : (zr_sel w_ g ah sz sp dp pn1 pd1) pp = (le9, di9) := hu
              refine lv_iconst (v := (nI 0)) hx hb dX4_rowOf_70 (by decide +kernel) ?_
              refine lv_istore (lv' := [(4, .int (nI 0)), (0, .ref x_), (1, .int (nI w_)), (2, .ref r_), (3, .int (nI pp))]) hx hb dX4_rowOf_71 hl (by decide) rfl (fun ls hl => ?_)
              refine lv_iload hx hb dX4_rowOf_73 (lv_at hl 0 rfl) ?_
              refine zk_if_eq (tgt := 88) hx hb (by omega) dX4_rowOf_75 (by decide) (fun c_4 => ?_) (fun c_4 => absurd c_4 (by omega))
              refine lv_iconst (v := (nI 1)) hx hb dX4_rowOf_88 (by decide +kernel) ?_
              refine lv_istore (lv' := [(5, .int (nI 1)), (4, .int (nI 0)), (0, .ref x_), (1, .int (nI w_)), (2, .ref r_), (3, .int (nI pp))]) hx hb dX4_rowOf_89 hl (by decide) rfl (fun ls hl => ?_)
              refine lv_aload_n hx hb dX4_rowOf_91 rfl (lv_at hl 4 rfl) ?_
              refine lv_iload_n hx hb dX4_rowOf_92 rfl (lv_at hl 5 rfl) ?_
              refine lv_iload hx hb dX4_rowOf_93 (lv_at hl 0 rfl) ?_
              refine lv_iload hx hb dX4_rowOf_95 (lv_at hl 1 rfl) ?_
              refine zk_if_eq (tgt := 110) hx hb (by omega) dX4_rowOf_97 (by decide) (fun c_5 => ?_) (fun c_5 => absurd c_5 (by omega))
              refine lv_iconst (v := (nI 0)) hx hb dX4_rowOf_110 (by decide +kernel) ?_
              refine zk_wrV (As := [.int (nI pp), .int (nI 1), .int (nI 0)]) (rest := []) ⟨hx, hb, hml, hown, hts⟩ hN (c_rput l D cI cZ cR r_ ra rb rd ct1 pb1 bw1 rc1 0 la1 se1 th1 pl1 ln1 ds1 pp 1 0 (by omega) (by omega) (by omega) (by omega) (by omega) (by omega) (by omega)) (cwV 3 hts gX4_rowOf_X2_put rfl rfl rfl (by decide +kernel) ⟨Nat.le_of_ble_eq_true rfl, Nat.le_of_ble_eq_true rfl⟩) hK hP (zk_D hD rfl) hS hA [11, 12, 13, 14] rfl (by decide) (fun _ => rfl) rfl rfl rfl rfl hl.1 rfl (Nat.le_of_ble_eq_true rfl) dX4_rowOf_111 ⟨Nat.zero_le _, Nat.zero_le _⟩ (fun u H locs hu3 hP hS => ?_)
              obtain ⟨pb9, bw9, rc9, la9, se9, th9⟩ := u
              have hu3 : zr_pc 1 0 pb1 bw1 rc1 la1 se1 th1 = (pb9, bw9, rc9, la9, se9, th9) := hu3
              have hP : va_P D vwCl [(x_, .inr (4, [.ref t, .ref f, .ref k_, .ref q_])), (f, .inr (0, [.ref t, .int (nI sp), .int (nI dp), .ref fa, .ref fb, .int (nI fc9), .int (nI le9), .int (nI di9)])), (fa, zk_a cI 38 fl9), (fb, zk_a cI 38 fd9), (t, .inr (3, [.ref b, .int (nI ah), .int (nI sz)])), (b, zk_a cI 360 g), (k_, .inr (1, [.ref ka, .ref kb, .ref kd])), (ka, zk_a cI 301 co1), (kb, zk_a cI 300 pn1), (kd, zk_a cI 300 pd1), (q_, .inl (cR, 4, .inr (.inr (.inr (.inr rf))))), (r_, .inr (2, [.ref ra, .ref rb, .ref rd, .int (nI (ct1 + 1)), .int (nI pb9), .int (nI bw9), .int (nI rc9), .int (nI 0), .int (nI la9), .int (nI se9), .int (nI th9)])), (ra, zk_a cI 300 (zk_up pl1 ct1 pp)), (rb, zk_a cI 300 (zk_up ln1 ct1 1)), (rd, zk_a cI 300 (zk_up ds1 ct1 0))] H := hP
              have hpb := zr_pc_b hu3 (by omega) (by omega) (by omega) (by omega)
              refine lv_iload_n hx hb dX4_rowOf_114 rfl (lv_at hl 5 rfl) ?_
              refine lv_iload hx hb dX4_rowOf_115 (lv_at hl 0 rfl) ?_
              refine zk_add (v := pp + 1) hx hb (rfl) dX4_rowOf_117 ?_
              refine lv_istore_n (lv' := [(3, .int (nI (pp + 1))), (5, .int (nI 1)), (4, .int (nI 0)), (0, .ref x_), (1, .int (nI w_)), (2, .ref r_)]) hx hb dX4_rowOf_118 rfl hl (by decide) rfl (fun ls hl => ?_)
              refine lv_goto (tgt := 38) hx hb dX4_rowOf_119 (by decide) ?_
              exact ih38 (pp + 1) fl9 fd9 fc9 le9 di9 (ct1 + 1) pb9 bw9 rc9 la9 se9 th9 (zk_up pl1 ct1 pp) (zk_up ln1 ct1 1) (zk_up ds1 ct1 0) (P ++ [(pp, 1, 0)]) ls _ _ (by omega) (by omega) (by rw [← g38_2, zr_pcs_l (n := sz - ct1) (k := sz - (ct1 + 1)) (by omega) hse (by omega) (by omega), List.append_assoc]; rfl) (zr_holds_push g38_3) (zr_bits_push g38_4 hu3) hpb.1 hpb.2.1 hpb.2.2 (by omega) hP hS (lv_sub hl [3, 4, 5, 0] rfl)
            · skip
              have hse : (zr_sel w_ g ah sz sp dp pn1 pd1) pp = (le9, di9) := hu
              have hin := zr_ok_in (by omega) g32_0 (q := pp) (by omega) (by rw [hse]; exact c_3)
              rw [hse] at hin
              have hi1 : le9 ≤ min 40 (sz - pp) := hin.1
              have hi2 : 1 ≤ di9 := hin.2.1
              have hi3 : di9 ≤ sp := hin.2.2
              refine lv_iconst (v := (nI 1)) hx hb dX4_rowOf_66 (by decide +kernel) ?_
              refine lv_goto (tgt := 71) hx hb dX4_rowOf_67 (by decide) ?_
              refine lv_istore (lv' := [(4, .int (nI 1)), (0, .ref x_), (1, .int (nI w_)), (2, .ref r_), (3, .int (nI pp))]) hx hb dX4_rowOf_71 hl (by decide) rfl (fun ls hl => ?_)
              refine lv_iload hx hb dX4_rowOf_73 (lv_at hl 0 rfl) ?_
              refine zk_if_eq (tgt := 88) hx hb (by omega) dX4_rowOf_75 (by decide) (fun c_6 => absurd c_6 (by omega)) (fun c_6 => ?_)
              refine lv_aload_n hx hb dX4_rowOf_78 rfl (lv_at hl 1 rfl) ?_
              refine va_get (D := D) (ci := 4) (v := .ref f) (C := RX4) (T := TX4) (N := 4) hx hb hts ziX4_rowOf_4 hown hK hP 0 rfl rfl 1 (by decide) f25 (fun _ h9 => h9) rfl dX4_rowOf_79 ?_
              refine va_get (D := D) (ci := 0) (v := .int (nI le9)) (C := RX0) (T := TX0) (N := 8) hx hb hts ziX4_rowOf_0 hown hK hP 1 rfl rfl 6 (by decide) f76 (fun _ h9 => h9) rfl dX4_rowOf_82 ?_
              refine lv_goto (tgt := 89) hx hb dX4_rowOf_85 (by decide) ?_
              refine lv_istore (lv' := [(5, .int (nI le9)), (4, .int (nI 1)), (0, .ref x_), (1, .int (nI w_)), (2, .ref r_), (3, .int (nI pp))]) hx hb dX4_rowOf_89 hl (by decide) rfl (fun ls hl => ?_)
              refine lv_aload_n hx hb dX4_rowOf_91 rfl (lv_at hl 4 rfl) ?_
              refine lv_iload_n hx hb dX4_rowOf_92 rfl (lv_at hl 5 rfl) ?_
              refine lv_iload hx hb dX4_rowOf_93 (lv_at hl 0 rfl) ?_
              refine lv_iload hx hb dX4_rowOf_95 (lv_at hl 1 rfl) ?_
              refine zk_if_eq (tgt := 110) hx hb (by omega) dX4_rowOf_97 (by decide) (fun c_7 => absurd c_7 (by omega)) (fun c_7 => ?_)
              refine lv_aload_n hx hb dX4_rowOf_100 rfl (lv_at hl 2 rfl) ?_
              refine va_get (D := D) (ci := 4) (v := .ref f) (C := RX4) (T := TX4) (N := 4) hx hb hts ziX4_rowOf_4 hown hK hP 0 rfl rfl 1 (by decide) f25 (fun _ h9 => h9) rfl dX4_rowOf_101 ?_
              refine va_get (D := D) (ci := 0) (v := .int (nI di9)) (C := RX0) (T := TX0) (N := 8) hx hb hts ziX4_rowOf_0 hown hK hP 1 rfl rfl 7 (by decide) f79 (fun _ h9 => h9) rfl dX4_rowOf_104 ?_
              refine lv_goto (tgt := 111) hx hb dX4_rowOf_107 (by decide) ?_
              refine zk_wrV (As := [.int (nI pp), .int (nI le9), .int (nI di9)]) (rest := []) ⟨hx, hb, hml, hown, hts⟩ hN (c_rput l D cI cZ cR r_ ra rb rd ct1 pb1 bw1 rc1 0 la1 se1 th1 pl1 ln1 ds1 pp le9 di9 (by omega) (by omega) (by omega) (by omega) (by omega) (by omega) (by omega)) (cwV 3 hts gX4_rowOf_X2_put rfl rfl rfl (by decide +kernel) ⟨Nat.le_of_ble_eq_true rfl, Nat.le_of_ble_eq_true rfl⟩) hK hP (zk_D hD rfl) hS hA [11, 12, 13, 14] rfl (by decide) (fun _ => rfl) rfl rfl rfl rfl hl.1 rfl (Nat.le_of_ble_eq_true rfl) dX4_rowOf_111 ⟨Nat.zero_le _, Nat.zero_le _⟩ (fun u H locs hu3 hP hS => ?_)
              obtain ⟨pb9, bw9, rc9, la9, se9, th9⟩ := u
              have hu3 : zr_pc le9 di9 pb1 bw1 rc1 la1 se1 th1 = (pb9, bw9, rc9, la9, se9, th9) := hu3
              have hP : va_P D vwCl [(x_, .inr (4, [.ref t, .ref f, .ref k_, .ref q_])), (f, .inr (0, [.ref t, .int (nI sp), .int (nI dp), .ref fa, .ref fb, .int (nI fc9), .int (nI le9), .int (nI di9)])), (fa, zk_a cI 38 fl9), (fb, zk_a cI 38 fd9), (t, .inr (3, [.ref b, .int (nI ah), .int (nI sz)])), (b, zk_a cI 360 g), (k_, .inr (1, [.ref ka, .ref kb, .ref kd])), (ka, zk_a cI 301 co1), (kb, zk_a cI 300 pn1), (kd, zk_a cI 300 pd1), (q_, .inl (cR, 4, .inr (.inr (.inr (.inr rf))))), (r_, .inr (2, [.ref ra, .ref rb, .ref rd, .int (nI (ct1 + 1)), .int (nI pb9), .int (nI bw9), .int (nI rc9), .int (nI 0), .int (nI la9), .int (nI se9), .int (nI th9)])), (ra, zk_a cI 300 (zk_up pl1 ct1 pp)), (rb, zk_a cI 300 (zk_up ln1 ct1 le9)), (rd, zk_a cI 300 (zk_up ds1 ct1 di9))] H := hP
              have hpb := zr_pc_b hu3 (by omega) (by omega) (by omega) (by omega)
              refine lv_iload_n hx hb dX4_rowOf_114 rfl (lv_at hl 5 rfl) ?_
              refine lv_iload hx hb dX4_rowOf_115 (lv_at hl 0 rfl) ?_
              refine zk_add (v := pp + le9) hx hb (rfl) dX4_rowOf_117 ?_
              refine lv_istore_n (lv' := [(3, .int (nI (pp + le9))), (5, .int (nI le9)), (4, .int (nI 1)), (0, .ref x_), (1, .int (nI w_)), (2, .ref r_)]) hx hb dX4_rowOf_118 rfl hl (by decide) rfl (fun ls hl => ?_)
              refine lv_goto (tgt := 38) hx hb dX4_rowOf_119 (by decide) ?_
              exact ih38 (pp + le9) fl9 fd9 fc9 le9 di9 (ct1 + 1) pb9 bw9 rc9 la9 se9 th9 (zk_up pl1 ct1 pp) (zk_up ln1 ct1 le9) (zk_up ds1 ct1 di9) (P ++ [(pp, le9, di9)]) ls _ _ (by omega) (by omega) (by rw [← g38_2, zr_pcs_m (n := sz - ct1) (k := sz - (ct1 + 1)) (by omega) hse (by omega) (by omega), List.append_assoc]; rfl) (zr_holds_push g38_3) (zr_bits_push g38_4 hu3) hpb.1 hpb.2.1 hpb.2.2 (by omega) hP hS (lv_sub hl [3, 4, 5, 0] rfl)
      exact L38 (sz - 0 + 1) 0 fl0 fd0 fc0 le di 0 0 0 0 0 0 0 pl ln ds ([]) ls _ _ (by omega) (by omega) rfl zr_holds_0 rfl (by omega) (by omega) (by omega) (by omega) hP hS (lv_sub hl [1, 2, 3, 0] rfl)
    refine lv_iload_n hx hb dX4_rowOf_16 rfl (lv_at hl 2 rfl) ?_
    refine lv_iconst (v := (nI 3)) hx hb dX4_rowOf_17 (by decide +kernel) ?_
    refine zk_icmp_ne (tgt := 32) hx hb (by omega) (by omega) dX4_rowOf_18 (by decide) (fun c_8 => ?_) (fun c_8 => ?_)
    · skip
      exact L32 co pn pd fl fd fc ls _ _ (zr_ok_lt (by omega) c_8) hP hS (lv_sub hl [1, 2, 0] rfl)
    · skip
      refine lv_aload_n hx hb dX4_rowOf_21 rfl (lv_at hl 1 rfl) ?_
      refine va_get (D := D) (ci := 4) (v := .ref k_) (C := RX4) (T := TX4) (N := 4) hx hb hts ziX4_rowOf_4 hown hK hP 0 rfl rfl 2 (by decide) f32 (fun _ h9 => h9) rfl dX4_rowOf_22 ?_
      refine lv_aload_n hx hb dX4_rowOf_25 rfl (lv_at hl 1 rfl) ?_
      refine va_get (D := D) (ci := 4) (v := .ref f) (C := RX4) (T := TX4) (N := 4) hx hb hts ziX4_rowOf_4 hown hK hP 0 rfl rfl 1 (by decide) f25 (fun _ h9 => h9) rfl dX4_rowOf_26 ?_
      refine zk_wrV (As := [.ref f]) (rest := []) ⟨hx, hb, hml, hown, hts⟩ hN (c_make l D cI cZ cR k_ ka kb kd co pn pd f sp dp fa fb fc le di fl fd t b ah sz g (by omega) (by omega) (by omega) h4) (cwV 1 hts gX4_rowOf_X1_make rfl rfl rfl (by decide +kernel) ⟨Nat.le_of_ble_eq_true rfl, Nat.le_of_ble_eq_true rfl⟩) hK hP (zk_D hD rfl) hS hA [6, 7, 8, 9, 1, 2, 3, 4, 5] rfl (by decide) (fun _ => rfl) rfl rfl rfl rfl hl.1 rfl (Nat.le_of_ble_eq_true rfl) dX4_rowOf_29 ⟨Nat.zero_le _, Nat.zero_le _⟩ (fun u H locs hu hP hS => ?_)
      obtain ⟨co9, pn9, pd9, fl9, fd9, fc9⟩ := u
      have hu : zr_DP (fun q => zr_F g (ah + q) (min 40 (sz - q)) (min sp (ah + q))) sz 0 co9 pn9 pd9 := hu
      have hP : va_P D vwCl [(x_, .inr (4, [.ref t, .ref f, .ref k_, .ref q_])), (f, .inr (0, [.ref t, .int (nI sp), .int (nI dp), .ref fa, .ref fb, .int (nI fc9), .int (nI le), .int (nI di)])), (fa, zk_a cI 38 fl9), (fb, zk_a cI 38 fd9), (t, .inr (3, [.ref b, .int (nI ah), .int (nI sz)])), (b, zk_a cI 360 g), (k_, .inr (1, [.ref ka, .ref kb, .ref kd])), (ka, zk_a cI 301 co9), (kb, zk_a cI 300 pn9), (kd, zk_a cI 300 pd9), (q_, .inl (cR, 4, .inr (.inr (.inr (.inr rf))))), (r_, .inr (2, [.ref ra, .ref rb, .ref rd, .int (nI ct), .int (nI pb), .int (nI bw), .int (nI rc), .int (nI 0), .int (nI la), .int (nI se), .int (nI th)])), (ra, zk_a cI 300 pl), (rb, zk_a cI 300 ln), (rd, zk_a cI 300 ds)] H := hP
      exact L32 co9 pn9 pd9 fl9 fd9 fc9 ls _ _ (zr_ok_3 c_8 hu) hP hS (lv_sub hl [1, 2, 0] rfl)
  · skip
    rcases h7 with h7 | ⟨h7, h8⟩
    · omega
    subst h7
    refine lv_aload_n hx hb dX4_rowOf_14 rfl (lv_at hl 0 rfl) ?_
    exact hret _ ls _ _ (co, pn, pd, fl, fd, fc, le, di, pl, ln, ds, ct, pb, bw, rc, la, se, th) dX4_rowOf_15 h8 hP hS
