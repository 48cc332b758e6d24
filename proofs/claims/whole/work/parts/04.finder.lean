/-! FRONT, the longest, the chained, over the lengths R d by their distances d. -/
def zr_fr (Rr : Nat → Nat) (mo : Nat) : Nat → Nat → Nat → List (Nat × Nat)
  | 0, _, _ => []
  | n + 1, d, be => if be < mo then (if be < Rr d then (Rr d, d) :: zr_fr Rr mo n (d + 1) (Rr d) else zr_fr Rr mo n (d + 1) be) else []
def zr_F (g : Nat → Nat) (h mo far : Nat) : List (Nat × Nat) := zr_fr (fun d => zr_reach g h (h - d) mo) mo far 1 2
theorem zr_fr_0 {Rr : Nat → Nat} {mo n d be : Nat} (h : n = 0) : zr_fr Rr mo n d be = [] := by subst h; rfl
theorem zr_fr_big {Rr : Nat → Nat} {mo n d be : Nat} (h : mo ≤ be) : zr_fr Rr mo n d be = [] := by
  cases n with
  | zero => rfl
  | succ n => rw [zr_fr, if_neg (by omega)]
theorem zr_fr_take {Rr : Nat → Nat} {mo n k d be r : Nat} (h : be < mo) (hr : r = Rr d) (h2 : be < r) (hn : n = k + 1) : zr_fr Rr mo n d be = (r, d) :: zr_fr Rr mo k (d + 1) r := by
  subst hn; subst hr
  rw [zr_fr, if_pos h, if_pos h2]
theorem zr_fr_skip {Rr : Nat → Nat} {mo n k d be r : Nat} (h : be < mo) (hr : r = Rr d) (h2 : r ≤ be) (hn : n = k + 1) : zr_fr Rr mo n d be = zr_fr Rr mo k (d + 1) be := by
  subst hn; subst hr
  rw [zr_fr, if_pos h, if_neg (by omega)]
/-- two rows of numbers hold a list of pairs -/
def zr_is (F : List (Nat × Nat)) (fl fd : Nat → Nat) (n : Nat) : Prop := F.length = n ∧ ∀ k, k < n → F[k]? = some (fl k, fd k)
theorem zr_is_0 {fl fd : Nat → Nat} : zr_is [] fl fd 0 := ⟨rfl, fun k h => by omega⟩
theorem zr_is_push {F : List (Nat × Nat)} {fl fd : Nat → Nat} {n r d : Nat} (h : zr_is F fl fd n) : zr_is (F ++ [(r, d)]) (zk_up fl n r) (zk_up fd n d) (n + 1) := by
  obtain ⟨h1, h2⟩ := h
  refine ⟨by rw [List.length_append, h1]; rfl, fun k hk => ?_⟩
  by_cases hkn : k = n
  · subst hkn
    rw [List.getElem?_append_right (by omega), h1, Nat.sub_self, zk_up_eq, zk_up_eq]
    rfl
  · rw [List.getElem?_append_left (by omega), zk_up_ne hkn, zk_up_ne hkn]
    exact h2 k (by omega)
/-- what FRONT's pairs keep to -/
theorem zr_fr_mem {Rr : Nat → Nat} {mo : Nat} : ∀ (n d be : Nat) (x : Nat × Nat), x ∈ zr_fr Rr mo n d be → be < x.1 ∧ x.1 = Rr x.2 ∧ d ≤ x.2 ∧ x.2 < d + n
  | 0, d, be, x, h => by simp [zr_fr] at h
  | n + 1, d, be, x, h => by
    unfold zr_fr at h
    split at h
    · split at h
      · rcases List.mem_cons.mp h with h1 | h1
        · subst h1; exact ⟨by assumption, rfl, Nat.le_refl _, by omega⟩
        · have h2 := zr_fr_mem n (d + 1) _ x h1
          exact ⟨by omega, h2.2.1, by omega, by omega⟩
      · have h2 := zr_fr_mem n (d + 1) be x h
        exact ⟨h2.1, h2.2.1, by omega, by omega⟩
    · simp at h
theorem zr_F_mem {g : Nat → Nat} {h mo far : Nat} {x : Nat × Nat} (hx : x ∈ zr_F g h mo far) : 3 ≤ x.1 ∧ x.1 ≤ mo ∧ 1 ≤ x.2 ∧ x.2 ≤ far ∧ x.1 = zr_reach g h (h - x.2) mo := by
  have h1 := zr_fr_mem far 1 2 x hx
  have h2 := zr_reach_le g mo h (h - x.2)
  have h3 : x.1 = zr_reach g h (h - x.2) mo := h1.2.1
  exact ⟨by omega, by omega, h1.2.2.1, by omega, h3⟩
theorem zr_is_mem {F : List (Nat × Nat)} {fl fd : Nat → Nat} {n k : Nat} (h : zr_is F fl fd n) (hk : k < n) : (fl k, fd k) ∈ F := List.mem_of_getElem? (h.2 k hk)
/-- the last of a list of pairs, (0, 0) of none -/
def zr_last (F : List (Nat × Nat)) : Nat × Nat := match F.getLast? with
  | none => (0, 0)
  | some x => x
theorem zr_last_0 {F : List (Nat × Nat)} {fl fd : Nat → Nat} {n : Nat} (h : zr_is F fl fd n) (hn : n = 0) : zr_last F = (0, 0) := by
  subst hn
  have h1 : F = [] := List.eq_nil_of_length_eq_zero h.1
  subst h1
  rfl
theorem zr_last_s {F : List (Nat × Nat)} {fl fd : Nat → Nat} {n : Nat} (h : zr_is F fl fd n) (hn : 0 < n) : zr_last F = (fl (n - 1), fd (n - 1)) := by
  have h1 : F.getLast? = some (fl (n - 1), fd (n - 1)) := by
    rw [List.getLast?_eq_getElem?, h.1]
    exact h.2 (n - 1) (by omega)
  rw [zr_last, h1]
theorem zr_last_mem {F : List (Nat × Nat)} (h : zr_last F ≠ (0, 0)) : zr_last F ∈ F := by
  unfold zr_last at h ⊢
  cases hg : F.getLast? with
  | none => rw [hg] at h; exact absurd rfl h
  | some x => exact List.mem_of_getLast? hg
def zr_ch (Rr : Nat → Nat) (dp : Nat) : Nat → Nat → Nat → Nat → Nat → Nat × Nat
  | 0, _, _, le, di => (le, di)
  | n + 1, d, se, le, di => if se < dp then (if 3 ≤ Rr d then (if le < Rr d then zr_ch Rr dp n (d + 1) (se + 1) (Rr d) d else zr_ch Rr dp n (d + 1) (se + 1) le di) else zr_ch Rr dp n (d + 1) se le di) else (le, di)
theorem zr_ch_0 {Rr : Nat → Nat} {dp n d se le di : Nat} (h : n = 0) : zr_ch Rr dp n d se le di = (le, di) := by subst h; rfl
theorem zr_ch_big {Rr : Nat → Nat} {dp n d se le di : Nat} (h : dp ≤ se) : zr_ch Rr dp n d se le di = (le, di) := by
  cases n with
  | zero => rfl
  | succ n => rw [zr_ch, if_neg (by omega)]
theorem zr_ch_no {Rr : Nat → Nat} {dp n k d se le di r : Nat} (h : se < dp) (hr : r = Rr d) (h2 : r < 3) (hn : n = k + 1) : zr_ch Rr dp n d se le di = zr_ch Rr dp k (d + 1) se le di := by
  subst hn; subst hr
  rw [zr_ch, if_pos h, if_neg (by omega)]
theorem zr_ch_in {Rr : Nat → Nat} {dp n k d se le di r : Nat} (h : se < dp) (hr : r = Rr d) (h2 : 3 ≤ r) (h3 : r ≤ le) (hn : n = k + 1) : zr_ch Rr dp n d se le di = zr_ch Rr dp k (d + 1) (se + 1) le di := by
  subst hn; subst hr
  rw [zr_ch, if_pos h, if_pos h2, if_neg (by omega)]
theorem zr_ch_up {Rr : Nat → Nat} {dp n k d se le di r : Nat} (h : se < dp) (hr : r = Rr d) (h2 : 3 ≤ r) (h3 : le < r) (hn : n = k + 1) : zr_ch Rr dp n d se le di = zr_ch Rr dp k (d + 1) (se + 1) r d := by
  subst hn; subst hr
  rw [zr_ch, if_pos h, if_pos h2, if_pos h3]
theorem zr_fr_len {Rr : Nat → Nat} {mo : Nat} (hR : ∀ d, Rr d ≤ mo) : ∀ (n d be : Nat), (zr_fr Rr mo n d be).length ≤ mo - be
  | 0, _, _ => by simp [zr_fr]
  | n + 1, d, be => by
    unfold zr_fr
    split
    · split
      · have h1 := zr_fr_len hR n (d + 1) (Rr d)
        have h2 := hR d
        rw [List.length_cons]
        omega
      · exact zr_fr_len hR n (d + 1) be
    · simp
theorem zr_is_len {g : Nat → Nat} {h k far fc : Nat} {fl fd : Nat → Nat} (hi : zr_is (zr_F g h (min 40 k) far) fl fd fc) : fc ≤ 38 := by
  rw [← hi.1]
  have h1 := zr_fr_len (Rr := fun d => zr_reach g h (h - d) (min 40 k)) (mo := min 40 k) (fun d => zr_reach_le g _ _ _) far 1 2
  have h2 : (zr_F g h (min 40 k) far).length ≤ min 40 k - 2 := h1
  omega
theorem zr_last_le {g : Nat → Nat} {h k far le di : Nat} (hi : zr_last (zr_F g h (min 40 k) far) = (le, di)) : le ≤ 40 := by
  by_cases h0 : zr_last (zr_F g h (min 40 k) far) = (0, 0)
  · rw [h0] at hi; cases hi; omega
  · have h1 := zr_F_mem (zr_last_mem h0)
    rw [hi] at h1
    have h2 : le ≤ min 40 k := h1.2.1
    omega
def rmX0_take : Room := { frames := 0, cells := 0, slots := 0, locals := 0 }
set_option maxRecDepth 20000 in
theorem ziX0_take_0 : ∀ w ∈ wsX00, w ∈ wsX0_take := by decide +kernel
set_option maxHeartbeats 4000000 in
set_option maxRecDepth 100000 in
/-- Finder.take -/
theorem c_take (l : Launch) (D : va_G) (cI cZ cR : ClassId) (f : Nat) (t : Nat) (sp : Nat) (dp : Nat) (fa : Nat) (fb : Nat) (fc : Nat) (le : Nat) (di : Nat) (x_ : Nat) (y_ : Nat) : zk_Wv l yX0_take wsX0_take rmX0_take D (zk_t cI cZ cR) [.ref f, .int (nI x_), .int (nI y_)] [(f, .inr (0, [.ref t, .int (nI sp), .int (nI dp), .ref fa, .ref fb, .int (nI fc), .int (nI le), .int (nI di)]))] (fun _ : Unit => True) (fun _ => [(f, .inr (0, [.ref t, .int (nI sp), .int (nI dp), .ref fa, .ref fb, .int (nI fc), .int (nI x_), .int (nI y_)]))]) := by
  refine zk_enterV RX0 cX0_take 3 (by decide) rfl rfl (Nat.le_of_ble_eq_true rfl) ?_
  intro p e s m args below meth c ls A Q hx hb hml hown hts hP hK hD hN hl hA hS hret
  have hl : lv_has ls 3 [(0, .ref f), (1, .int (nI x_)), (2, .int (nI y_))] := hl
  have f29 := hts (.fieldLink RX0 29 "MatchFinders$Finder" "length" "I") (by decide +kernel)
  have f32 := hts (.fieldLink RX0 32 "MatchFinders$Finder" "distance" "I") (by decide +kernel)
  refine lv_aload_n hx hb dX0_take_0 rfl (lv_at hl 0 rfl) ?_
  refine lv_iload_n hx hb dX0_take_1 rfl (lv_at hl 1 rfl) ?_
  refine va_put (D := D) (ci := 0) (v := .int (nI x_)) (ty := .int) (C := RX0) (T := TX0) (N := 8) hx hb hts ziX0_take_0 tyX0 tyX0_ok nmX0 hown hK hP (zk_D hD rfl) hS 0 rfl rfl 6 (by decide) f29 (fun _ h9 => h9) rfl (by decide +kernel) rfl rfl (Nat.le_of_ble_eq_true rfl) dX0_take_2 (fun H locs hP _ hS => ?_)
  have hP : va_P D vwCl [(f, .inr (0, [.ref t, .int (nI sp), .int (nI dp), .ref fa, .ref fb, .int (nI fc), .int (nI x_), .int (nI di)]))] H := hP
  refine lv_aload_n hx hb dX0_take_5 rfl (lv_at hl 0 rfl) ?_
  refine lv_iload_n hx hb dX0_take_6 rfl (lv_at hl 2 rfl) ?_
  refine va_put (D := D) (ci := 0) (v := .int (nI y_)) (ty := .int) (C := RX0) (T := TX0) (N := 8) hx hb hts ziX0_take_0 tyX0 tyX0_ok nmX0 hown hK hP (zk_D hD rfl) hS 0 rfl rfl 7 (by decide) f32 (fun _ h9 => h9) rfl (by decide +kernel) rfl rfl (Nat.le_of_ble_eq_true rfl) dX0_take_7 (fun H locs hP _ hS => ?_)
  have hP : va_P D vwCl [(f, .inr (0, [.ref t, .int (nI sp), .int (nI dp), .ref fa, .ref fb, .int (nI fc), .int (nI x_), .int (nI y_)]))] H := hP
  exact hret _ ls _ _ () dX0_take_10 trivial hP hS
def rmX0_gatherFront : Room := { frames := 2, cells := 0, slots := 0, locals := 42 }
set_option maxRecDepth 20000 in
theorem ziX0_gatherFront_0 : ∀ w ∈ wsX00, w ∈ wsX0_gatherFront := by decide +kernel
set_option maxHeartbeats 4000000 in
set_option maxRecDepth 100000 in
/-- Finder.gatherFront -/
theorem c_gatherFront (l : Launch) (D : va_G) (cI cZ cR : ClassId) (f : Nat) (sp : Nat) (dp : Nat) (fa : Nat) (fb : Nat) (fc : Nat) (le : Nat) (di : Nat) (fl : Nat → Nat) (fd : Nat → Nat) (t : Nat) (b : Nat) (ah : Nat) (sz : Nat) (g : Nat → Nat) (p_ : Nat) (h0 : ah ≤ 60) (h1 : sz ≤ 300) (h2 : sp ≤ 300) (h3 : p_ ≤ sz) (h4 : ∀ j, g j < 256) : zk_Wv l yX0_gatherFront wsX0_gatherFront rmX0_gatherFront D (zk_t cI cZ cR) [.ref f, .int (nI p_)] [(f, .inr (0, [.ref t, .int (nI sp), .int (nI dp), .ref fa, .ref fb, .int (nI fc), .int (nI le), .int (nI di)])), (fa, zk_a cI 38 fl), (fb, zk_a cI 38 fd), (t, .inr (3, [.ref b, .int (nI ah), .int (nI sz)])), (b, zk_a cI 360 g)] (fun u : (Nat → Nat) × (Nat → Nat) × Nat => match u with | (fl2, fd2, fc2) => zr_is (zr_F g (ah + p_) (min 40 (sz - p_)) (min sp (ah + p_))) fl2 fd2 fc2) (fun u => match u with | (fl2, fd2, fc2) => [(f, .inr (0, [.ref t, .int (nI sp), .int (nI dp), .ref fa, .ref fb, .int (nI fc2), .int (nI le), .int (nI di)])), (fa, zk_a cI 38 fl2), (fb, zk_a cI 38 fd2), (t, .inr (3, [.ref b, .int (nI ah), .int (nI sz)])), (b, zk_a cI 360 g)]) := by
  refine zk_enterV RX0 cX0_gatherFront 7 (by decide) rfl rfl (Nat.le_of_ble_eq_true rfl) ?_
  intro p e s m args below meth c ls A Q hx hb hml hown hts hP hK hD hN hl hA hS hret
  have hl : lv_has ls 7 [(0, .ref f), (1, .int (nI p_))] := hl
  have f9 := hts (.fieldLink RX0 9 "MatchFinders$Finder" "frontLengths" "[I") (by decide +kernel)
  have f15 := hts (.fieldLink RX0 15 "MatchFinders$Finder" "frontDistances" "[I") (by decide +kernel)
  have f18 := hts (.fieldLink RX0 18 "MatchFinders$Finder" "text" "LMatchFinders$Text;") (by decide +kernel)
  have f22 := hts (.fieldLink RX0 22 "MatchFinders$Finder" "span" "I") (by decide +kernel)
  have f35 := hts (.fieldLink RX0 35 "MatchFinders$Finder" "frontCount" "I") (by decide +kernel)
  refine lv_aload_n hx hb dX0_gatherFront_0 rfl (lv_at hl 0 rfl) ?_
  refine lv_iconst (v := (nI 0)) hx hb dX0_gatherFront_1 (by decide +kernel) ?_
  refine va_put (D := D) (ci := 0) (v := .int (nI 0)) (ty := .int) (C := RX0) (T := TX0) (N := 8) hx hb hts ziX0_gatherFront_0 tyX0 tyX0_ok nmX0 hown hK hP (zk_D hD rfl) hS 0 rfl rfl 5 (by decide) f35 (fun _ h9 => h9) rfl (by decide +kernel) rfl rfl (Nat.le_of_ble_eq_true rfl) dX0_gatherFront_2 (fun H locs hP _ hS => ?_)
  have hP : va_P D vwCl [(f, .inr (0, [.ref t, .int (nI sp), .int (nI dp), .ref fa, .ref fb, .int (nI 0), .int (nI le), .int (nI di)])), (fa, zk_a cI 38 fl), (fb, zk_a cI 38 fd), (t, .inr (3, [.ref b, .int (nI ah), .int (nI sz)])), (b, zk_a cI 360 g)] H := hP
  refine lv_aload_n hx hb dX0_gatherFront_5 rfl (lv_at hl 0 rfl) ?_
  refine va_get (D := D) (ci := 0) (v := .ref t) (C := RX0) (T := TX0) (N := 8) hx hb hts ziX0_gatherFront_0 hown hK hP 0 rfl rfl 0 (by decide) f18 (fun _ h9 => h9) rfl dX0_gatherFront_6 ?_
  refine lv_iload_n hx hb dX0_gatherFront_9 rfl (lv_at hl 1 rfl) ?_
  refine zk_rdV (As := [.int (nI p_)]) (rest := []) ⟨hx, hb, hml, hown, hts⟩ hN (c_mostLength l D cI cZ cR t b ah sz g p_ (by omega) (by omega)) (cwV 1 hts gX0_gatherFront_X3_mostLength rfl rfl rfl (by decide +kernel) ⟨Nat.le_of_ble_eq_true rfl, Nat.le_of_ble_eq_true rfl⟩) hK hP (zk_D hD rfl) [3, 4] rfl (by decide) rfl rfl rfl rfl hl.1 rfl (Nat.le_of_ble_eq_true rfl) dX0_gatherFront_10 ⟨Nat.zero_le _, Nat.zero_le _⟩ ?_
  refine zk_nm (fun mo h_mo => ?_)
  refine lv_istore_n (lv' := [(2, .int (nI mo)), (0, .ref f), (1, .int (nI p_))]) hx hb dX0_gatherFront_13 rfl hl (by decide) rfl (fun ls hl => ?_)
  refine lv_aload_n hx hb dX0_gatherFront_14 rfl (lv_at hl 1 rfl) ?_
  refine va_get (D := D) (ci := 0) (v := .int (nI sp)) (C := RX0) (T := TX0) (N := 8) hx hb hts ziX0_gatherFront_0 hown hK hP 0 rfl rfl 1 (by decide) f22 (fun _ h9 => h9) rfl dX0_gatherFront_15 ?_
  refine lv_aload_n hx hb dX0_gatherFront_18 rfl (lv_at hl 1 rfl) ?_
  refine va_get (D := D) (ci := 0) (v := .ref t) (C := RX0) (T := TX0) (N := 8) hx hb hts ziX0_gatherFront_0 hown hK hP 0 rfl rfl 0 (by decide) f18 (fun _ h9 => h9) rfl dX0_gatherFront_19 ?_
  refine lv_iload_n hx hb dX0_gatherFront_22 rfl (lv_at hl 2 rfl) ?_
  refine zk_rdV (As := [.int (nI p_)]) (rest := [.int (nI sp)]) ⟨hx, hb, hml, hown, hts⟩ hN (c_farthest l D cI cZ cR t b ah sz g p_) (cwV 1 hts gX0_gatherFront_X3_farthest rfl rfl rfl (by decide +kernel) ⟨Nat.le_of_ble_eq_true rfl, Nat.le_of_ble_eq_true rfl⟩) hK hP (zk_D hD rfl) [3, 4] rfl (by decide) rfl rfl rfl rfl hl.1 rfl (Nat.le_of_ble_eq_true rfl) dX0_gatherFront_23 ⟨Nat.zero_le _, Nat.zero_le _⟩ ?_
  refine va_mmin hx hb (by rw [hml]; exact hl.1.symm) hown (hts (.methodLink RX0 47 Lib.Math.min.name) (by decide +kernel)) (hts (.static Lib.Math.min.name) (by decide +kernel)) (hts (.initialized "java/lang/Math") (by decide +kernel)) (hts (.code Lib.Math.min.name Lib.Math.min.code 2 (some .int)) (by decide +kernel)) (Nat.le_of_ble_eq_true rfl) (Nat.le_of_ble_eq_true rfl) (Nat.zero_le _) (Nat.zero_le _) dX0_gatherFront_26 ?_
  refine zk_top (zk_minN (by omega) (by omega)) ?_
  refine zk_nm (fun far h_far => ?_)
  refine lv_istore_n (lv' := [(3, .int (nI far)), (2, .int (nI mo)), (0, .ref f), (1, .int (nI p_))]) hx hb dX0_gatherFront_29 rfl hl (by decide) rfl (fun ls hl => ?_)
  refine lv_iconst (v := (nI 2)) hx hb dX0_gatherFront_30 (by decide +kernel) ?_
  refine lv_istore (lv' := [(4, .int (nI 2)), (3, .int (nI far)), (2, .int (nI mo)), (0, .ref f), (1, .int (nI p_))]) hx hb dX0_gatherFront_31 hl (by decide) rfl (fun ls hl => ?_)
  refine lv_iconst (v := (nI 1)) hx hb dX0_gatherFront_33 (by decide +kernel) ?_
  refine lv_istore (lv' := [(5, .int (nI 1)), (4, .int (nI 2)), (3, .int (nI far)), (2, .int (nI mo)), (0, .ref f), (1, .int (nI p_))]) hx hb dX0_gatherFront_34 hl (by decide) rfl (fun ls hl => ?_)
  have L36 : ∀ (n : Nat) (d : Nat) (be : Nat) (fc1 : Nat) (fl1 : Nat → Nat) (fd1 : Nat → Nat) (P : List (Nat × Nat)) (ls : Array Slot) (H : Heap) (locs : List Loc), (1 ≤ d) → (d ≤ far + 1) → (fc1 + 2 ≤ be) → (be ≤ 40) → (zr_is P fl1 fd1 fc1) → (P ++ zr_fr (fun d => zr_reach g (ah + p_) (ah + p_ - d) mo) mo (far + 1 - d) d be = zr_F g (ah + p_) (min 40 (sz - p_)) (min sp (ah + p_))) → (far + 1 - d) < n → va_P D vwCl [(f, .inr (0, [.ref t, .int (nI sp), .int (nI dp), .ref fa, .ref fb, .int (nI fc1), .int (nI le), .int (nI di)])), (fa, zk_a cI 38 fl1), (fb, zk_a cI 38 fd1), (t, .inr (3, [.ref b, .int (nI ah), .int (nI sz)])), (b, zk_a cI 360 g)] H → va_S A s.heap H locs → lv_has ls 7 [(0, .ref f), (1, .int (nI p_)), (2, .int (nI mo)), (3, .int (nI far)), (4, .int (nI be)), (5, .int (nI d))] → W p l e rmX0_gatherFront s m args below meth c H locs 0 0 Q (F0 m 36 ls []) := by
    intro n
    induction n with
    | zero => intro d be fc1 fl1 fd1 P ls H locs g36_0 g36_1 g36_2 g36_3 g36_4 g36_5 hm hP hS hl; exact absurd hm (by omega)
    | succ n ih36 =>
      intro d be fc1 fl1 fd1 P ls H locs g36_0 g36_1 g36_2 g36_3 g36_4 g36_5 hm hP hS hl
      refine lv_iload hx hb dX0_gatherFront_36 (lv_at hl 5 rfl) ?_
      refine lv_iload_n hx hb dX0_gatherFront_38 rfl (lv_at hl 3 rfl) ?_
      refine zk_icmp_gt (tgt := 119) hx hb (by omega) (by omega) dX0_gatherFront_39 (by decide) (fun c_1 => ?_) (fun c_1 => ?_)
      · skip
        exact hret _ ls _ _ (fl1, fd1, fc1) dX0_gatherFront_119 (by rw [← g36_5, zr_fr_0 (n := far + 1 - d) (by omega), List.append_nil]; exact g36_4) hP hS
      · skip
        refine lv_iload hx hb dX0_gatherFront_42 (lv_at hl 4 rfl) ?_
        refine lv_iload_n hx hb dX0_gatherFront_44 rfl (lv_at hl 2 rfl) ?_
        refine zk_icmp_ge (tgt := 119) hx hb (by omega) (by omega) dX0_gatherFront_45 (by decide) (fun c_2 => ?_) (fun c_2 => ?_)
        · skip
          exact hret _ ls _ _ (fl1, fd1, fc1) dX0_gatherFront_119 (by rw [← g36_5, zr_fr_big (by omega), List.append_nil]; exact g36_4) hP hS
        · skip
          refine lv_aload_n hx hb dX0_gatherFront_48 rfl (lv_at hl 0 rfl) ?_
          refine va_get (D := D) (ci := 0) (v := .ref t) (C := RX0) (T := TX0) (N := 8) hx hb hts ziX0_gatherFront_0 hown hK hP 0 rfl rfl 0 (by decide) f18 (fun _ h9 => h9) rfl dX0_gatherFront_49 ?_
          refine lv_iload_n hx hb dX0_gatherFront_52 rfl (lv_at hl 1 rfl) ?_
          refine lv_iload hx hb dX0_gatherFront_53 (lv_at hl 5 rfl) ?_
          refine lv_iload_n hx hb dX0_gatherFront_55 rfl (lv_at hl 2 rfl) ?_
          refine zk_rdV (As := [.int (nI p_), .int (nI d), .int (nI mo)]) (rest := []) ⟨hx, hb, hml, hown, hts⟩ hN (c_reach l D cI cZ cR t b ah sz g p_ d mo (by omega) (by omega) (by omega) h4) (cwV 3 hts gX0_gatherFront_X3_reach rfl rfl rfl (by decide +kernel) ⟨Nat.le_of_ble_eq_true rfl, Nat.le_of_ble_eq_true rfl⟩) hK hP (zk_D hD rfl) [3, 4] rfl (by decide) rfl rfl rfl rfl hl.1 rfl (Nat.le_of_ble_eq_true rfl) dX0_gatherFront_56 ⟨Nat.zero_le _, Nat.zero_le _⟩ ?_
          refine zk_nm (fun rr h_rr => ?_)
          have hrl := zr_reach_le g mo (ah + p_) (ah + p_ - d)
          refine lv_istore (lv' := [(6, .int (nI rr)), (0, .ref f), (1, .int (nI p_)), (2, .int (nI mo)), (3, .int (nI far)), (4, .int (nI be)), (5, .int (nI d))]) hx hb dX0_gatherFront_59 hl (by decide) rfl (fun ls hl => ?_)
          refine lv_iload hx hb dX0_gatherFront_61 (lv_at hl 0 rfl) ?_
          refine lv_iload hx hb dX0_gatherFront_63 (lv_at hl 5 rfl) ?_
          refine zk_icmp_le (tgt := 113) hx hb (by omega) (by omega) dX0_gatherFront_65 (by decide) (fun c_3 => ?_) (fun c_3 => ?_)
          · skip
            refine lv_iinc (v := (nI (d + 1))) (lv' := [(5, .int (nI (d + 1))), (6, .int (nI rr)), (0, .ref f), (1, .int (nI p_)), (2, .int (nI mo)), (3, .int (nI far)), (4, .int (nI be))]) hx hb dX0_gatherFront_113 hl (k := 6) rfl (by rw [show Int32.ofInt 1 = (1 : Int32) from rfl, nI_1]) (by decide) rfl (fun ls hl => ?_)
            refine lv_goto (tgt := 36) hx hb dX0_gatherFront_116 (by decide) ?_
            exact ih36 (d + 1) be fc1 fl1 fd1 P ls _ _ (by omega) (by omega) (by omega) (by omega) g36_4 (by rw [← g36_5, zr_fr_skip (Rr := (fun d => zr_reach g (ah + p_) (ah + p_ - d) mo)) (d := d) (n := far + 1 - d) (k := far + 1 - (d + 1)) (r := rr) (by omega) h_rr (by omega) (by omega)]) (by omega) hP hS (lv_sub hl [2, 3, 4, 5, 6, 0] rfl)
          · skip
            refine lv_aload_n hx hb dX0_gatherFront_68 rfl (lv_at hl 1 rfl) ?_
            refine va_get (D := D) (ci := 0) (v := .int (nI fc1)) (C := RX0) (T := TX0) (N := 8) hx hb hts ziX0_gatherFront_0 hown hK hP 0 rfl rfl 5 (by decide) f35 (fun _ h9 => h9) rfl dX0_gatherFront_69 ?_
            refine lv_bipush (v := (nI 38)) hx hb dX0_gatherFront_72 (by decide +kernel) ?_
            refine zk_icmp_ge (tgt := 113) hx hb (by omega) (by omega) dX0_gatherFront_74 (by decide) (fun c_4 => absurd c_4 (by omega)) (fun c_4 => ?_)
            refine lv_aload_n hx hb dX0_gatherFront_77 rfl (lv_at hl 1 rfl) ?_
            refine va_get (D := D) (ci := 0) (v := .ref fa) (C := RX0) (T := TX0) (N := 8) hx hb hts ziX0_gatherFront_0 hown hK hP 0 rfl rfl 3 (by decide) f9 (fun _ h9 => h9) rfl dX0_gatherFront_78 ?_
            refine lv_aload_n hx hb dX0_gatherFront_81 rfl (lv_at hl 1 rfl) ?_
            refine va_get (D := D) (ci := 0) (v := .int (nI fc1)) (C := RX0) (T := TX0) (N := 8) hx hb hts ziX0_gatherFront_0 hown hK hP 0 rfl rfl 5 (by decide) f35 (fun _ h9 => h9) rfl dX0_gatherFront_82 ?_
            refine lv_iload hx hb dX0_gatherFront_85 (lv_at hl 0 rfl) ?_
            refine zk_ist (i := fc1) (x := rr) (g := fl1) hx hb hK hP (zk_D hD rfl) hS 1 0 rfl rfl (by omega) (by decide) dX0_gatherFront_87 (fun H locs hP hS => ?_)
            have hP : va_P D vwCl [(f, .inr (0, [.ref t, .int (nI sp), .int (nI dp), .ref fa, .ref fb, .int (nI fc1), .int (nI le), .int (nI di)])), (fa, zk_a cI 38 (zk_up fl1 fc1 rr)), (fb, zk_a cI 38 fd1), (t, .inr (3, [.ref b, .int (nI ah), .int (nI sz)])), (b, zk_a cI 360 g)] H := hP
            refine lv_aload_n hx hb dX0_gatherFront_88 rfl (lv_at hl 1 rfl) ?_
            refine va_get (D := D) (ci := 0) (v := .ref fb) (C := RX0) (T := TX0) (N := 8) hx hb hts ziX0_gatherFront_0 hown hK hP 0 rfl rfl 4 (by decide) f15 (fun _ h9 => h9) rfl dX0_gatherFront_89 ?_
            refine lv_aload_n hx hb dX0_gatherFront_92 rfl (lv_at hl 1 rfl) ?_
            refine va_get (D := D) (ci := 0) (v := .int (nI fc1)) (C := RX0) (T := TX0) (N := 8) hx hb hts ziX0_gatherFront_0 hown hK hP 0 rfl rfl 5 (by decide) f35 (fun _ h9 => h9) rfl dX0_gatherFront_93 ?_
            refine lv_iload hx hb dX0_gatherFront_96 (lv_at hl 6 rfl) ?_
            refine zk_ist (i := fc1) (x := d) (g := fd1) hx hb hK hP (zk_D hD rfl) hS 2 0 rfl rfl (by omega) (by decide) dX0_gatherFront_98 (fun H locs hP hS => ?_)
            have hP : va_P D vwCl [(f, .inr (0, [.ref t, .int (nI sp), .int (nI dp), .ref fa, .ref fb, .int (nI fc1), .int (nI le), .int (nI di)])), (fa, zk_a cI 38 (zk_up fl1 fc1 rr)), (fb, zk_a cI 38 (zk_up fd1 fc1 d)), (t, .inr (3, [.ref b, .int (nI ah), .int (nI sz)])), (b, zk_a cI 360 g)] H := hP
            refine lv_aload_n hx hb dX0_gatherFront_99 rfl (lv_at hl 1 rfl) ?_
            refine lv_dup hx hb dX0_gatherFront_100 rfl ?_
            refine va_get (D := D) (ci := 0) (v := .int (nI fc1)) (C := RX0) (T := TX0) (N := 8) hx hb hts ziX0_gatherFront_0 hown hK hP 0 rfl rfl 5 (by decide) f35 (fun _ h9 => h9) rfl dX0_gatherFront_101 ?_
            refine lv_iconst (v := (nI 1)) hx hb dX0_gatherFront_104 (by decide +kernel) ?_
            refine zk_add (v := fc1 + 1) hx hb (rfl) dX0_gatherFront_105 ?_
            refine va_put (D := D) (ci := 0) (v := .int (nI (fc1 + 1))) (ty := .int) (C := RX0) (T := TX0) (N := 8) hx hb hts ziX0_gatherFront_0 tyX0 tyX0_ok nmX0 hown hK hP (zk_D hD rfl) hS 0 rfl rfl 5 (by decide) f35 (fun _ h9 => h9) rfl (by decide +kernel) rfl rfl (Nat.le_of_ble_eq_true rfl) dX0_gatherFront_106 (fun H locs hP _ hS => ?_)
            have hP : va_P D vwCl [(f, .inr (0, [.ref t, .int (nI sp), .int (nI dp), .ref fa, .ref fb, .int (nI (fc1 + 1)), .int (nI le), .int (nI di)])), (fa, zk_a cI 38 (zk_up fl1 fc1 rr)), (fb, zk_a cI 38 (zk_up fd1 fc1 d)), (t, .inr (3, [.ref b, .int (nI ah), .int (nI sz)])), (b, zk_a cI 360 g)] H := hP
            refine lv_iload hx hb dX0_gatherFront_109 (lv_at hl 0 rfl) ?_
            refine lv_istore (lv' := [(4, .int (nI rr)), (6, .int (nI rr)), (0, .ref f), (1, .int (nI p_)), (2, .int (nI mo)), (3, .int (nI far)), (5, .int (nI d))]) hx hb dX0_gatherFront_111 hl (by decide) rfl (fun ls hl => ?_)
            refine lv_iinc (v := (nI (d + 1))) (lv' := [(5, .int (nI (d + 1))), (4, .int (nI rr)), (6, .int (nI rr)), (0, .ref f), (1, .int (nI p_)), (2, .int (nI mo)), (3, .int (nI far))]) hx hb dX0_gatherFront_113 hl (k := 6) rfl (by rw [show Int32.ofInt 1 = (1 : Int32) from rfl, nI_1]) (by decide) rfl (fun ls hl => ?_)
            refine lv_goto (tgt := 36) hx hb dX0_gatherFront_116 (by decide) ?_
            exact ih36 (d + 1) rr (fc1 + 1) (zk_up fl1 fc1 rr) (zk_up fd1 fc1 d) (P ++ [(rr, d)]) ls _ _ (by omega) (by omega) (by omega) (by omega) (zr_is_push g36_4) (by rw [← g36_5, zr_fr_take (Rr := (fun d => zr_reach g (ah + p_) (ah + p_ - d) mo)) (d := d) (n := far + 1 - d) (k := far + 1 - (d + 1)) (r := rr) (by omega) h_rr (by omega) (by omega), List.append_assoc]; rfl) (by omega) hP hS (lv_sub hl [3, 4, 5, 6, 1, 0] rfl)
  exact L36 (far + 1 - 1 + 1) 1 2 0 fl fd ([]) ls _ _ (by omega) (by omega) (by omega) (by omega) zr_is_0 (by rw [h_mo, h_far]; rfl) (by omega) hP hS (lv_sub hl [4, 5, 3, 2, 1, 0] rfl)
def rmX0_seekLongest : Room := { frames := 3, cells := 0, slots := 0, locals := 68 }
set_option maxRecDepth 20000 in
theorem ziX0_seekLongest_0 : ∀ w ∈ wsX00, w ∈ wsX0_seekLongest := by decide +kernel
set_option maxHeartbeats 4000000 in
set_option maxRecDepth 100000 in
/-- Finder.seekLongest -/
theorem c_seekLongest (l : Launch) (D : va_G) (cI cZ cR : ClassId) (f : Nat) (sp : Nat) (dp : Nat) (fa : Nat) (fb : Nat) (fc : Nat) (le : Nat) (di : Nat) (fl : Nat → Nat) (fd : Nat → Nat) (t : Nat) (b : Nat) (ah : Nat) (sz : Nat) (g : Nat → Nat) (p_ : Nat) (h0 : ah ≤ 60) (h1 : sz ≤ 300) (h2 : sp ≤ 300) (h3 : p_ ≤ sz) (h4 : ∀ j, g j < 256) : zk_Wv l yX0_seekLongest wsX0_seekLongest rmX0_seekLongest D (zk_t cI cZ cR) [.ref f, .int (nI p_)] [(f, .inr (0, [.ref t, .int (nI sp), .int (nI dp), .ref fa, .ref fb, .int (nI fc), .int (nI le), .int (nI di)])), (fa, zk_a cI 38 fl), (fb, zk_a cI 38 fd), (t, .inr (3, [.ref b, .int (nI ah), .int (nI sz)])), (b, zk_a cI 360 g)] (fun u : (Nat → Nat) × (Nat → Nat) × Nat × Nat × Nat => match u with | (fl2, fd2, fc2, le2, di2) => zr_last (zr_F g (ah + p_) (min 40 (sz - p_)) (min sp (ah + p_))) = (le2, di2)) (fun u => match u with | (fl2, fd2, fc2, le2, di2) => [(f, .inr (0, [.ref t, .int (nI sp), .int (nI dp), .ref fa, .ref fb, .int (nI fc2), .int (nI le2), .int (nI di2)])), (fa, zk_a cI 38 fl2), (fb, zk_a cI 38 fd2), (t, .inr (3, [.ref b, .int (nI ah), .int (nI sz)])), (b, zk_a cI 360 g)]) := by
  refine zk_enterV RX0 cX0_seekLongest 2 (by decide) rfl rfl (Nat.le_of_ble_eq_true rfl) ?_
  intro p e s m args below meth c ls A Q hx hb hml hown hts hP hK hD hN hl hA hS hret
  have hl : lv_has ls 2 [(0, .ref f), (1, .int (nI p_))] := hl
  have f9 := hts (.fieldLink RX0 9 "MatchFinders$Finder" "frontLengths" "[I") (by decide +kernel)
  have f15 := hts (.fieldLink RX0 15 "MatchFinders$Finder" "frontDistances" "[I") (by decide +kernel)
  have f35 := hts (.fieldLink RX0 35 "MatchFinders$Finder" "frontCount" "I") (by decide +kernel)
  refine lv_aload_n hx hb dX0_seekLongest_0 rfl (lv_at hl 0 rfl) ?_
  refine lv_iload_n hx hb dX0_seekLongest_1 rfl (lv_at hl 1 rfl) ?_
  refine zk_wrV (As := [.int (nI p_)]) (rest := []) ⟨hx, hb, hml, hown, hts⟩ hN (c_gatherFront l D cI cZ cR f sp dp fa fb fc le di fl fd t b ah sz g p_ (by omega) (by omega) (by omega) (by omega) h4) (cwV 1 hts gX0_seekLongest_X0_gatherFront rfl rfl rfl (by decide +kernel) ⟨Nat.le_of_ble_eq_true rfl, Nat.le_of_ble_eq_true rfl⟩) hK hP (zk_D hD rfl) hS hA [0, 1, 2, 3, 4] rfl (by decide) (fun _ => rfl) rfl rfl rfl rfl hl.1 rfl (Nat.le_of_ble_eq_true rfl) dX0_seekLongest_2 ⟨Nat.zero_le _, Nat.zero_le _⟩ (fun u H locs hu hP hS => ?_)
  obtain ⟨fl9, fd9, fc9⟩ := u
  have hu : zr_is (zr_F g (ah + p_) (min 40 (sz - p_)) (min sp (ah + p_))) fl9 fd9 fc9 := hu
  have hP : va_P D vwCl [(f, .inr (0, [.ref t, .int (nI sp), .int (nI dp), .ref fa, .ref fb, .int (nI fc9), .int (nI le), .int (nI di)])), (fa, zk_a cI 38 fl9), (fb, zk_a cI 38 fd9), (t, .inr (3, [.ref b, .int (nI ah), .int (nI sz)])), (b, zk_a cI 360 g)] H := hP
  refine lv_aload_n hx hb dX0_seekLongest_5 rfl (lv_at hl 0 rfl) ?_
  refine lv_iconst (v := (nI 0)) hx hb dX0_seekLongest_6 (by decide +kernel) ?_
  refine lv_iconst (v := (nI 0)) hx hb dX0_seekLongest_7 (by decide +kernel) ?_
  refine zk_wrV (As := [.int (nI 0), .int (nI 0)]) (rest := []) ⟨hx, hb, hml, hown, hts⟩ hN (c_take l D cI cZ cR f t sp dp fa fb fc9 le di 0 0) (cwV 2 hts gX0_seekLongest_X0_take rfl rfl rfl (by decide +kernel) ⟨Nat.le_of_ble_eq_true rfl, Nat.le_of_ble_eq_true rfl⟩) hK hP (zk_D hD rfl) hS hA [0] rfl (by decide) (fun _ => rfl) rfl rfl rfl rfl hl.1 rfl (Nat.le_of_ble_eq_true rfl) dX0_seekLongest_8 ⟨Nat.zero_le _, Nat.zero_le _⟩ (fun u H locs hu1 hP hS => ?_)
  have hP : va_P D vwCl [(f, .inr (0, [.ref t, .int (nI sp), .int (nI dp), .ref fa, .ref fb, .int (nI fc9), .int (nI 0), .int (nI 0)])), (fa, zk_a cI 38 fl9), (fb, zk_a cI 38 fd9), (t, .inr (3, [.ref b, .int (nI ah), .int (nI sz)])), (b, zk_a cI 360 g)] H := hP
  refine lv_aload_n hx hb dX0_seekLongest_11 rfl (lv_at hl 0 rfl) ?_
  have hfc : fc9 ≤ 38 := zr_is_len hu
  refine va_get (D := D) (ci := 0) (v := .int (nI fc9)) (C := RX0) (T := TX0) (N := 8) hx hb hts ziX0_seekLongest_0 hown hK hP 0 rfl rfl 5 (by decide) f35 (fun _ h9 => h9) rfl dX0_seekLongest_12 ?_
  refine zk_if_le (tgt := 44) hx hb (by omega) dX0_seekLongest_15 (by decide) (fun c_1 => ?_) (fun c_1 => ?_)
  · skip
    exact hret _ ls _ _ (fl9, fd9, fc9, _, _) dX0_seekLongest_44 (zr_last_0 hu c_1) hP hS
  · skip
    have hm := zr_F_mem (zr_is_mem hu (k := fc9 - 1) (by omega))
    have hfc : fc9 ≤ 38 := zr_is_len hu
    refine lv_aload_n hx hb dX0_seekLongest_18 rfl (lv_at hl 0 rfl) ?_
    refine lv_aload_n hx hb dX0_seekLongest_19 rfl (lv_at hl 0 rfl) ?_
    refine va_get (D := D) (ci := 0) (v := .ref fa) (C := RX0) (T := TX0) (N := 8) hx hb hts ziX0_seekLongest_0 hown hK hP 0 rfl rfl 3 (by decide) f9 (fun _ h9 => h9) rfl dX0_seekLongest_20 ?_
    refine lv_aload_n hx hb dX0_seekLongest_23 rfl (lv_at hl 0 rfl) ?_
    refine va_get (D := D) (ci := 0) (v := .int (nI fc9)) (C := RX0) (T := TX0) (N := 8) hx hb hts ziX0_seekLongest_0 hown hK hP 0 rfl rfl 5 (by decide) f35 (fun _ h9 => h9) rfl dX0_seekLongest_24 ?_
    refine lv_iconst (v := (nI 1)) hx hb dX0_seekLongest_27 (by decide +kernel) ?_
    refine zk_sub (v := fc9 - 1) hx hb (by omega) dX0_seekLongest_28 ?_
    refine zk_ild (v := fl9 (fc9 - 1)) hx hb hK hP 1 0 (i := fc9 - 1) (g := fl9) rfl rfl (by omega) (by decide) rfl dX0_seekLongest_29 ?_
    refine lv_aload_n hx hb dX0_seekLongest_30 rfl (lv_at hl 0 rfl) ?_
    refine va_get (D := D) (ci := 0) (v := .ref fb) (C := RX0) (T := TX0) (N := 8) hx hb hts ziX0_seekLongest_0 hown hK hP 0 rfl rfl 4 (by decide) f15 (fun _ h9 => h9) rfl dX0_seekLongest_31 ?_
    refine lv_aload_n hx hb dX0_seekLongest_34 rfl (lv_at hl 0 rfl) ?_
    refine va_get (D := D) (ci := 0) (v := .int (nI fc9)) (C := RX0) (T := TX0) (N := 8) hx hb hts ziX0_seekLongest_0 hown hK hP 0 rfl rfl 5 (by decide) f35 (fun _ h9 => h9) rfl dX0_seekLongest_35 ?_
    refine lv_iconst (v := (nI 1)) hx hb dX0_seekLongest_38 (by decide +kernel) ?_
    refine zk_sub (v := fc9 - 1) hx hb (by omega) dX0_seekLongest_39 ?_
    refine zk_ild (v := fd9 (fc9 - 1)) hx hb hK hP 2 0 (i := fc9 - 1) (g := fd9) rfl rfl (by omega) (by decide) rfl dX0_seekLongest_40 ?_
    refine zk_wrV (As := [.int (nI (fl9 (fc9 - 1))), .int (nI (fd9 (fc9 - 1)))]) (rest := []) ⟨hx, hb, hml, hown, hts⟩ hN (c_take l D cI cZ cR f t sp dp fa fb fc9 0 0 (fl9 (fc9 - 1)) (fd9 (fc9 - 1))) (cwV 2 hts gX0_seekLongest_X0_take rfl rfl rfl (by decide +kernel) ⟨Nat.le_of_ble_eq_true rfl, Nat.le_of_ble_eq_true rfl⟩) hK hP (zk_D hD rfl) hS hA [0] rfl (by decide) (fun _ => rfl) rfl rfl rfl rfl hl.1 rfl (Nat.le_of_ble_eq_true rfl) dX0_seekLongest_41 ⟨Nat.zero_le _, Nat.zero_le _⟩ (fun u H locs hu2 hP hS => ?_)
    have hP : va_P D vwCl [(f, .inr (0, [.ref t, .int (nI sp), .int (nI dp), .ref fa, .ref fb, .int (nI fc9), .int (nI (fl9 (fc9 - 1))), .int (nI (fd9 (fc9 - 1)))])), (fa, zk_a cI 38 fl9), (fb, zk_a cI 38 fd9), (t, .inr (3, [.ref b, .int (nI ah), .int (nI sz)])), (b, zk_a cI 360 g)] H := hP
    exact hret _ ls _ _ (fl9, fd9, fc9, _, _) dX0_seekLongest_44 (zr_last_s hu c_1) hP hS
def rmX0_seekChained : Room := { frames := 2, cells := 0, slots := 0, locals := 42 }
set_option maxRecDepth 20000 in
theorem ziX0_seekChained_0 : ∀ w ∈ wsX00, w ∈ wsX0_seekChained := by decide +kernel
set_option maxHeartbeats 4000000 in
set_option maxRecDepth 100000 in
/-- Finder.seekChained -/
theorem c_seekChained (l : Launch) (D : va_G) (cI cZ cR : ClassId) (f : Nat) (sp : Nat) (dp : Nat) (fa : Nat) (fb : Nat) (fc : Nat) (le : Nat) (di : Nat) (fl : Nat → Nat) (fd : Nat → Nat) (t : Nat) (b : Nat) (ah : Nat) (sz : Nat) (g : Nat → Nat) (p_ : Nat) (h0 : ah ≤ 60) (h1 : sz ≤ 300) (h2 : sp ≤ 300) (h3 : p_ ≤ sz) (h4 : ∀ j, g j < 256) (h5 : dp ≤ 64) : zk_Wv l yX0_seekChained wsX0_seekChained rmX0_seekChained D (zk_t cI cZ cR) [.ref f, .int (nI p_)] [(f, .inr (0, [.ref t, .int (nI sp), .int (nI dp), .ref fa, .ref fb, .int (nI fc), .int (nI le), .int (nI di)])), (fa, zk_a cI 38 fl), (fb, zk_a cI 38 fd), (t, .inr (3, [.ref b, .int (nI ah), .int (nI sz)])), (b, zk_a cI 360 g)] (fun u : Nat × Nat => match u with | (le2, di2) => zr_ch (fun d => zr_reach g (ah + p_) (ah + p_ - d) (min 40 (sz - p_))) dp (min sp (ah + p_)) 1 0 0 0 = (le2, di2)) (fun u => match u with | (le2, di2) => [(f, .inr (0, [.ref t, .int (nI sp), .int (nI dp), .ref fa, .ref fb, .int (nI fc), .int (nI le2), .int (nI di2)])), (fa, zk_a cI 38 fl), (fb, zk_a cI 38 fd), (t, .inr (3, [.ref b, .int (nI ah), .int (nI sz)])), (b, zk_a cI 360 g)]) := by
  refine zk_enterV RX0 cX0_seekChained 7 (by decide) rfl rfl (Nat.le_of_ble_eq_true rfl) ?_
  intro p e s m args below meth c ls A Q hx hb hml hown hts hP hK hD hN hl hA hS hret
  have hl : lv_has ls 7 [(0, .ref f), (1, .int (nI p_))] := hl
  have f18 := hts (.fieldLink RX0 18 "MatchFinders$Finder" "text" "LMatchFinders$Text;") (by decide +kernel)
  have f22 := hts (.fieldLink RX0 22 "MatchFinders$Finder" "span" "I") (by decide +kernel)
  have f26 := hts (.fieldLink RX0 26 "MatchFinders$Finder" "depth" "I") (by decide +kernel)
  have f29 := hts (.fieldLink RX0 29 "MatchFinders$Finder" "length" "I") (by decide +kernel)
  refine lv_aload_n hx hb dX0_seekChained_0 rfl (lv_at hl 0 rfl) ?_
  refine lv_iconst (v := (nI 0)) hx hb dX0_seekChained_1 (by decide +kernel) ?_
  refine lv_iconst (v := (nI 0)) hx hb dX0_seekChained_2 (by decide +kernel) ?_
  refine zk_wrV (As := [.int (nI 0), .int (nI 0)]) (rest := []) ⟨hx, hb, hml, hown, hts⟩ hN (c_take l D cI cZ cR f t sp dp fa fb fc le di 0 0) (cwV 2 hts gX0_seekChained_X0_take rfl rfl rfl (by decide +kernel) ⟨Nat.le_of_ble_eq_true rfl, Nat.le_of_ble_eq_true rfl⟩) hK hP (zk_D hD rfl) hS hA [0] rfl (by decide) (fun _ => rfl) rfl rfl rfl rfl hl.1 rfl (Nat.le_of_ble_eq_true rfl) dX0_seekChained_3 ⟨Nat.zero_le _, Nat.zero_le _⟩ (fun u H locs hu1 hP hS => ?_)
  have hP : va_P D vwCl [(f, .inr (0, [.ref t, .int (nI sp), .int (nI dp), .ref fa, .ref fb, .int (nI fc), .int (nI 0), .int (nI 0)])), (fa, zk_a cI 38 fl), (fb, zk_a cI 38 fd), (t, .inr (3, [.ref b, .int (nI ah), .int (nI sz)])), (b, zk_a cI 360 g)] H := hP
  refine lv_aload_n hx hb dX0_seekChained_6 rfl (lv_at hl 0 rfl) ?_
  refine va_get (D := D) (ci := 0) (v := .ref t) (C := RX0) (T := TX0) (N := 8) hx hb hts ziX0_seekChained_0 hown hK hP 0 rfl rfl 0 (by decide) f18 (fun _ h9 => h9) rfl dX0_seekChained_7 ?_
  refine lv_iload_n hx hb dX0_seekChained_10 rfl (lv_at hl 1 rfl) ?_
  refine zk_rdV (As := [.int (nI p_)]) (rest := []) ⟨hx, hb, hml, hown, hts⟩ hN (c_mostLength l D cI cZ cR t b ah sz g p_ (by omega) (by omega)) (cwV 1 hts gX0_seekChained_X3_mostLength rfl rfl rfl (by decide +kernel) ⟨Nat.le_of_ble_eq_true rfl, Nat.le_of_ble_eq_true rfl⟩) hK hP (zk_D hD rfl) [3, 4] rfl (by decide) rfl rfl rfl rfl hl.1 rfl (Nat.le_of_ble_eq_true rfl) dX0_seekChained_11 ⟨Nat.zero_le _, Nat.zero_le _⟩ ?_
  refine zk_nm (fun mo h_mo => ?_)
  refine lv_istore_n (lv' := [(2, .int (nI mo)), (0, .ref f), (1, .int (nI p_))]) hx hb dX0_seekChained_14 rfl hl (by decide) rfl (fun ls hl => ?_)
  refine lv_aload_n hx hb dX0_seekChained_15 rfl (lv_at hl 1 rfl) ?_
  refine va_get (D := D) (ci := 0) (v := .int (nI sp)) (C := RX0) (T := TX0) (N := 8) hx hb hts ziX0_seekChained_0 hown hK hP 0 rfl rfl 1 (by decide) f22 (fun _ h9 => h9) rfl dX0_seekChained_16 ?_
  refine lv_aload_n hx hb dX0_seekChained_19 rfl (lv_at hl 1 rfl) ?_
  refine va_get (D := D) (ci := 0) (v := .ref t) (C := RX0) (T := TX0) (N := 8) hx hb hts ziX0_seekChained_0 hown hK hP 0 rfl rfl 0 (by decide) f18 (fun _ h9 => h9) rfl dX0_seekChained_20 ?_
  refine lv_iload_n hx hb dX0_seekChained_23 rfl (lv_at hl 2 rfl) ?_
  refine zk_rdV (As := [.int (nI p_)]) (rest := [.int (nI sp)]) ⟨hx, hb, hml, hown, hts⟩ hN (c_farthest l D cI cZ cR t b ah sz g p_) (cwV 1 hts gX0_seekChained_X3_farthest rfl rfl rfl (by decide +kernel) ⟨Nat.le_of_ble_eq_true rfl, Nat.le_of_ble_eq_true rfl⟩) hK hP (zk_D hD rfl) [3, 4] rfl (by decide) rfl rfl rfl rfl hl.1 rfl (Nat.le_of_ble_eq_true rfl) dX0_seekChained_24 ⟨Nat.zero_le _, Nat.zero_le _⟩ ?_
  refine va_mmin hx hb (by rw [hml]; exact hl.1.symm) hown (hts (.methodLink RX0 47 Lib.Math.min.name) (by decide +kernel)) (hts (.static Lib.Math.min.name) (by decide +kernel)) (hts (.initialized "java/lang/Math") (by decide +kernel)) (hts (.code Lib.Math.min.name Lib.Math.min.code 2 (some .int)) (by decide +kernel)) (Nat.le_of_ble_eq_true rfl) (Nat.le_of_ble_eq_true rfl) (Nat.zero_le _) (Nat.zero_le _) dX0_seekChained_27 ?_
  refine zk_top (zk_minN (by omega) (by omega)) ?_
  refine zk_nm (fun far h_far => ?_)
  refine lv_istore_n (lv' := [(3, .int (nI far)), (2, .int (nI mo)), (0, .ref f), (1, .int (nI p_))]) hx hb dX0_seekChained_30 rfl hl (by decide) rfl (fun ls hl => ?_)
  refine lv_iconst (v := (nI 0)) hx hb dX0_seekChained_31 (by decide +kernel) ?_
  refine lv_istore (lv' := [(4, .int (nI 0)), (3, .int (nI far)), (2, .int (nI mo)), (0, .ref f), (1, .int (nI p_))]) hx hb dX0_seekChained_32 hl (by decide) rfl (fun ls hl => ?_)
  refine lv_iconst (v := (nI 1)) hx hb dX0_seekChained_34 (by decide +kernel) ?_
  refine lv_istore (lv' := [(5, .int (nI 1)), (4, .int (nI 0)), (3, .int (nI far)), (2, .int (nI mo)), (0, .ref f), (1, .int (nI p_))]) hx hb dX0_seekChained_35 hl (by decide) rfl (fun ls hl => ?_)
  have L37 : ∀ (n : Nat) (d : Nat) (se : Nat) (le1 : Nat) (di1 : Nat) (ls : Array Slot) (H : Heap) (locs : List Loc), (1 ≤ d) → (d ≤ far + 1) → (se ≤ dp) → (le1 ≤ 40) → (zr_ch (fun d => zr_reach g (ah + p_) (ah + p_ - d) mo) dp (far + 1 - d) d se le1 di1 = zr_ch (fun d => zr_reach g (ah + p_) (ah + p_ - d) (min 40 (sz - p_))) dp (min sp (ah + p_)) 1 0 0 0) → (far + 1 - d) < n → va_P D vwCl [(f, .inr (0, [.ref t, .int (nI sp), .int (nI dp), .ref fa, .ref fb, .int (nI fc), .int (nI le1), .int (nI di1)])), (fa, zk_a cI 38 fl), (fb, zk_a cI 38 fd), (t, .inr (3, [.ref b, .int (nI ah), .int (nI sz)])), (b, zk_a cI 360 g)] H → va_S A s.heap H locs → lv_has ls 7 [(0, .ref f), (1, .int (nI p_)), (2, .int (nI mo)), (3, .int (nI far)), (4, .int (nI se)), (5, .int (nI d))] → W p l e rmX0_seekChained s m args below meth c H locs 0 0 Q (F0 m 37 ls []) := by
    intro n
    induction n with
    | zero => intro d se le1 di1 ls H locs g37_0 g37_1 g37_2 g37_3 g37_4 hm hP hS hl; exact absurd hm (by omega)
    | succ n ih37 =>
      intro d se le1 di1 ls H locs g37_0 g37_1 g37_2 g37_3 g37_4 hm hP hS hl
      refine lv_iload hx hb dX0_seekChained_37 (lv_at hl 5 rfl) ?_
      refine lv_iload_n hx hb dX0_seekChained_39 rfl (lv_at hl 3 rfl) ?_
      refine zk_icmp_gt (tgt := 97) hx hb (by omega) (by omega) dX0_seekChained_40 (by decide) (fun c_1 => ?_) (fun c_1 => ?_)
      · skip
        exact hret _ ls _ _ (le1, di1) dX0_seekChained_97 (by rw [← g37_4, zr_ch_0 (n := far + 1 - d) (by omega)]) hP hS
      · skip
        refine lv_iload hx hb dX0_seekChained_43 (lv_at hl 4 rfl) ?_
        refine lv_aload_n hx hb dX0_seekChained_45 rfl (lv_at hl 0 rfl) ?_
        refine va_get (D := D) (ci := 0) (v := .int (nI dp)) (C := RX0) (T := TX0) (N := 8) hx hb hts ziX0_seekChained_0 hown hK hP 0 rfl rfl 2 (by decide) f26 (fun _ h9 => h9) rfl dX0_seekChained_46 ?_
        refine zk_icmp_ge (tgt := 97) hx hb (by omega) (by omega) dX0_seekChained_49 (by decide) (fun c_2 => ?_) (fun c_2 => ?_)
        · skip
          exact hret _ ls _ _ (le1, di1) dX0_seekChained_97 (by rw [← g37_4, zr_ch_big (by omega)]) hP hS
        · skip
          refine lv_aload_n hx hb dX0_seekChained_52 rfl (lv_at hl 0 rfl) ?_
          refine va_get (D := D) (ci := 0) (v := .ref t) (C := RX0) (T := TX0) (N := 8) hx hb hts ziX0_seekChained_0 hown hK hP 0 rfl rfl 0 (by decide) f18 (fun _ h9 => h9) rfl dX0_seekChained_53 ?_
          refine lv_iload_n hx hb dX0_seekChained_56 rfl (lv_at hl 1 rfl) ?_
          refine lv_iload hx hb dX0_seekChained_57 (lv_at hl 5 rfl) ?_
          refine lv_iload_n hx hb dX0_seekChained_59 rfl (lv_at hl 2 rfl) ?_
          refine zk_rdV (As := [.int (nI p_), .int (nI d), .int (nI mo)]) (rest := []) ⟨hx, hb, hml, hown, hts⟩ hN (c_reach l D cI cZ cR t b ah sz g p_ d mo (by omega) (by omega) (by omega) h4) (cwV 3 hts gX0_seekChained_X3_reach rfl rfl rfl (by decide +kernel) ⟨Nat.le_of_ble_eq_true rfl, Nat.le_of_ble_eq_true rfl⟩) hK hP (zk_D hD rfl) [3, 4] rfl (by decide) rfl rfl rfl rfl hl.1 rfl (Nat.le_of_ble_eq_true rfl) dX0_seekChained_60 ⟨Nat.zero_le _, Nat.zero_le _⟩ ?_
          refine zk_nm (fun rr h_rr => ?_)
          have hrl := zr_reach_le g mo (ah + p_) (ah + p_ - d)
          refine lv_istore (lv' := [(6, .int (nI rr)), (0, .ref f), (1, .int (nI p_)), (2, .int (nI mo)), (3, .int (nI far)), (4, .int (nI se)), (5, .int (nI d))]) hx hb dX0_seekChained_63 hl (by decide) rfl (fun ls hl => ?_)
          refine lv_iload hx hb dX0_seekChained_65 (lv_at hl 0 rfl) ?_
          refine lv_iconst (v := (nI 3)) hx hb dX0_seekChained_67 (by decide +kernel) ?_
          refine zk_icmp_lt (tgt := 91) hx hb (by omega) (by omega) dX0_seekChained_68 (by decide) (fun c_3 => ?_) (fun c_3 => ?_)
          · skip
            refine lv_iinc (v := (nI (d + 1))) (lv' := [(5, .int (nI (d + 1))), (6, .int (nI rr)), (0, .ref f), (1, .int (nI p_)), (2, .int (nI mo)), (3, .int (nI far)), (4, .int (nI se))]) hx hb dX0_seekChained_91 hl (k := 6) rfl (by rw [show Int32.ofInt 1 = (1 : Int32) from rfl, nI_1]) (by decide) rfl (fun ls hl => ?_)
            refine lv_goto (tgt := 37) hx hb dX0_seekChained_94 (by decide) ?_
            exact ih37 (d + 1) se le1 di1 ls _ _ (by omega) (by omega) (by omega) (by omega) (by rw [← g37_4, zr_ch_no (Rr := (fun d => zr_reach g (ah + p_) (ah + p_ - d) mo)) (d := d) (n := far + 1 - d) (k := far + 1 - (d + 1)) (r := rr) (by omega) h_rr (by omega) (by omega)]) (by omega) hP hS (lv_sub hl [2, 3, 4, 5, 6, 0] rfl)
          · skip
            refine lv_iinc (v := (nI (se + 1))) (lv' := [(4, .int (nI (se + 1))), (6, .int (nI rr)), (0, .ref f), (1, .int (nI p_)), (2, .int (nI mo)), (3, .int (nI far)), (5, .int (nI d))]) hx hb dX0_seekChained_71 hl (k := 5) rfl (by rw [show Int32.ofInt 1 = (1 : Int32) from rfl, nI_1]) (by decide) rfl (fun ls hl => ?_)
            refine lv_iload hx hb dX0_seekChained_74 (lv_at hl 1 rfl) ?_
            refine lv_aload_n hx hb dX0_seekChained_76 rfl (lv_at hl 2 rfl) ?_
            refine va_get (D := D) (ci := 0) (v := .int (nI le1)) (C := RX0) (T := TX0) (N := 8) hx hb hts ziX0_seekChained_0 hown hK hP 0 rfl rfl 6 (by decide) f29 (fun _ h9 => h9) rfl dX0_seekChained_77 ?_
            refine zk_icmp_le (tgt := 91) hx hb (by omega) (by omega) dX0_seekChained_80 (by decide) (fun c_4 => ?_) (fun c_4 => ?_)
            · skip
              refine lv_iinc (v := (nI (d + 1))) (lv' := [(5, .int (nI (d + 1))), (4, .int (nI (se + 1))), (6, .int (nI rr)), (0, .ref f), (1, .int (nI p_)), (2, .int (nI mo)), (3, .int (nI far))]) hx hb dX0_seekChained_91 hl (k := 6) rfl (by rw [show Int32.ofInt 1 = (1 : Int32) from rfl, nI_1]) (by decide) rfl (fun ls hl => ?_)
              refine lv_goto (tgt := 37) hx hb dX0_seekChained_94 (by decide) ?_
              exact ih37 (d + 1) (se + 1) le1 di1 ls _ _ (by omega) (by omega) (by omega) (by omega) (by rw [← g37_4, zr_ch_in (Rr := (fun d => zr_reach g (ah + p_) (ah + p_ - d) mo)) (d := d) (n := far + 1 - d) (k := far + 1 - (d + 1)) (r := rr) (by omega) h_rr (by omega) (by omega) (by omega)]) (by omega) hP hS (lv_sub hl [3, 4, 5, 6, 1, 0] rfl)
            · skip
              refine lv_aload_n hx hb dX0_seekChained_83 rfl (lv_at hl 2 rfl) ?_
              refine lv_iload hx hb dX0_seekChained_84 (lv_at hl 1 rfl) ?_
              refine lv_iload hx hb dX0_seekChained_86 (lv_at hl 6 rfl) ?_
              refine zk_wrV (As := [.int (nI rr), .int (nI d)]) (rest := []) ⟨hx, hb, hml, hown, hts⟩ hN (c_take l D cI cZ cR f t sp dp fa fb fc le1 di1 rr d) (cwV 2 hts gX0_seekChained_X0_take rfl rfl rfl (by decide +kernel) ⟨Nat.le_of_ble_eq_true rfl, Nat.le_of_ble_eq_true rfl⟩) hK hP (zk_D hD rfl) hS hA [0] rfl (by decide) (fun _ => rfl) rfl rfl rfl rfl hl.1 rfl (Nat.le_of_ble_eq_true rfl) dX0_seekChained_88 ⟨Nat.zero_le _, Nat.zero_le _⟩ (fun u H locs hu2 hP hS => ?_)
              have hP : va_P D vwCl [(f, .inr (0, [.ref t, .int (nI sp), .int (nI dp), .ref fa, .ref fb, .int (nI fc), .int (nI rr), .int (nI d)])), (fa, zk_a cI 38 fl), (fb, zk_a cI 38 fd), (t, .inr (3, [.ref b, .int (nI ah), .int (nI sz)])), (b, zk_a cI 360 g)] H := hP
              refine lv_iinc (v := (nI (d + 1))) (lv' := [(5, .int (nI (d + 1))), (4, .int (nI (se + 1))), (6, .int (nI rr)), (0, .ref f), (1, .int (nI p_)), (2, .int (nI mo)), (3, .int (nI far))]) hx hb dX0_seekChained_91 hl (k := 6) rfl (by rw [show Int32.ofInt 1 = (1 : Int32) from rfl, nI_1]) (by decide) rfl (fun ls hl => ?_)
              refine lv_goto (tgt := 37) hx hb dX0_seekChained_94 (by decide) ?_
              exact ih37 (d + 1) (se + 1) rr d ls _ _ (by omega) (by omega) (by omega) (by omega) (by rw [← g37_4, zr_ch_up (Rr := (fun d => zr_reach g (ah + p_) (ah + p_ - d) mo)) (d := d) (n := far + 1 - d) (k := far + 1 - (d + 1)) (r := rr) (by omega) h_rr (by omega) (by omega) (by omega)]) (by omega) hP hS (lv_sub hl [3, 4, 5, 6, 1, 0] rfl)
  exact L37 (far + 1 - 1 + 1) 1 0 0 0 ls _ _ (by omega) (by omega) (by omega) (by omega) (by rw [h_mo, h_far]; rfl) (by omega) hP hS (lv_sub hl [4, 5, 3, 2, 1, 0] rfl)
def rmX0_seekLookingAhead : Room := { frames := 4, cells := 0, slots := 0, locals := 89 }
set_option maxRecDepth 20000 in
theorem ziX0_seekLookingAhead_0 : ∀ w ∈ wsX00, w ∈ wsX0_seekLookingAhead := by decide +kernel
set_option maxHeartbeats 4000000 in
set_option maxRecDepth 100000 in
/-- Finder.seekLookingAhead -/
theorem c_seekLookingAhead (l : Launch) (D : va_G) (cI cZ cR : ClassId) (f : Nat) (sp : Nat) (dp : Nat) (fa : Nat) (fb : Nat) (fc : Nat) (le : Nat) (di : Nat) (fl : Nat → Nat) (fd : Nat → Nat) (t : Nat) (b : Nat) (ah : Nat) (sz : Nat) (g : Nat → Nat) (p_ : Nat) (h0 : ah ≤ 60) (h1 : sz ≤ 300) (h2 : sp ≤ 300) (h3 : p_ + 1 ≤ sz) (h4 : ∀ j, g j < 256) : zk_Wv l yX0_seekLookingAhead wsX0_seekLookingAhead rmX0_seekLookingAhead D (zk_t cI cZ cR) [.ref f, .int (nI p_)] [(f, .inr (0, [.ref t, .int (nI sp), .int (nI dp), .ref fa, .ref fb, .int (nI fc), .int (nI le), .int (nI di)])), (fa, zk_a cI 38 fl), (fb, zk_a cI 38 fd), (t, .inr (3, [.ref b, .int (nI ah), .int (nI sz)])), (b, zk_a cI 360 g)] (fun u : (Nat → Nat) × (Nat → Nat) × Nat × Nat × Nat => match u with | (fl2, fd2, fc2, le2, di2) => (if (zr_last (zr_F g (ah + p_) (min 40 (sz - p_)) (min sp (ah + p_)))).1 < (zr_last (zr_F g (ah + (p_ + 1)) (min 40 (sz - (p_ + 1))) (min sp (ah + (p_ + 1))))).1 then (0, 0) else zr_last (zr_F g (ah + p_) (min 40 (sz - p_)) (min sp (ah + p_)))) = (le2, di2)) (fun u => match u with | (fl2, fd2, fc2, le2, di2) => [(f, .inr (0, [.ref t, .int (nI sp), .int (nI dp), .ref fa, .ref fb, .int (nI fc2), .int (nI le2), .int (nI di2)])), (fa, zk_a cI 38 fl2), (fb, zk_a cI 38 fd2), (t, .inr (3, [.ref b, .int (nI ah), .int (nI sz)])), (b, zk_a cI 360 g)]) := by
  refine zk_enterV RX0 cX0_seekLookingAhead 3 (by decide) rfl rfl (Nat.le_of_ble_eq_true rfl) ?_
  intro p e s m args below meth c ls A Q hx hb hml hown hts hP hK hD hN hl hA hS hret
  have hl : lv_has ls 3 [(0, .ref f), (1, .int (nI p_))] := hl
  have f29 := hts (.fieldLink RX0 29 "MatchFinders$Finder" "length" "I") (by decide +kernel)
  refine lv_aload_n hx hb dX0_seekLookingAhead_0 rfl (lv_at hl 0 rfl) ?_
  refine lv_iload_n hx hb dX0_seekLookingAhead_1 rfl (lv_at hl 1 rfl) ?_
  refine lv_iconst (v := (nI 1)) hx hb dX0_seekLookingAhead_2 (by decide +kernel) ?_
  refine zk_add (v := p_ + 1) hx hb (rfl) dX0_seekLookingAhead_3 ?_
  refine zk_wrV (As := [.int (nI (p_ + 1))]) (rest := []) ⟨hx, hb, hml, hown, hts⟩ hN (c_seekLongest l D cI cZ cR f sp dp fa fb fc le di fl fd t b ah sz g (p_ + 1) (by omega) (by omega) (by omega) (by omega) h4) (cwV 1 hts gX0_seekLookingAhead_X0_seekLongest rfl rfl rfl (by decide +kernel) ⟨Nat.le_of_ble_eq_true rfl, Nat.le_of_ble_eq_true rfl⟩) hK hP (zk_D hD rfl) hS hA [0, 1, 2, 3, 4] rfl (by decide) (fun _ => rfl) rfl rfl rfl rfl hl.1 rfl (Nat.le_of_ble_eq_true rfl) dX0_seekLookingAhead_4 ⟨Nat.zero_le _, Nat.zero_le _⟩ (fun u H locs hu1 hP hS => ?_)
  obtain ⟨fl8, fd8, fc8, le8, di8⟩ := u
  have hu1 : zr_last (zr_F g (ah + (p_ + 1)) (min 40 (sz - (p_ + 1))) (min sp (ah + (p_ + 1)))) = (le8, di8) := hu1
  have hP : va_P D vwCl [(f, .inr (0, [.ref t, .int (nI sp), .int (nI dp), .ref fa, .ref fb, .int (nI fc8), .int (nI le8), .int (nI di8)])), (fa, zk_a cI 38 fl8), (fb, zk_a cI 38 fd8), (t, .inr (3, [.ref b, .int (nI ah), .int (nI sz)])), (b, zk_a cI 360 g)] H := hP
  have hb1 : le8 ≤ 40 := zr_last_le hu1
  refine lv_aload_n hx hb dX0_seekLookingAhead_7 rfl (lv_at hl 0 rfl) ?_
  refine va_get (D := D) (ci := 0) (v := .int (nI le8)) (C := RX0) (T := TX0) (N := 8) hx hb hts ziX0_seekLookingAhead_0 hown hK hP 0 rfl rfl 6 (by decide) f29 (fun _ h9 => h9) rfl dX0_seekLookingAhead_8 ?_
  refine lv_istore_n (lv' := [(2, .int (nI le8)), (0, .ref f), (1, .int (nI p_))]) hx hb dX0_seekLookingAhead_11 rfl hl (by decide) rfl (fun ls hl => ?_)
  refine lv_aload_n hx hb dX0_seekLookingAhead_12 rfl (lv_at hl 1 rfl) ?_
  refine lv_iload_n hx hb dX0_seekLookingAhead_13 rfl (lv_at hl 2 rfl) ?_
  refine zk_wrV (As := [.int (nI p_)]) (rest := []) ⟨hx, hb, hml, hown, hts⟩ hN (c_seekLongest l D cI cZ cR f sp dp fa fb fc8 le8 di8 fl8 fd8 t b ah sz g p_ (by omega) (by omega) (by omega) (by omega) h4) (cwV 1 hts gX0_seekLookingAhead_X0_seekLongest rfl rfl rfl (by decide +kernel) ⟨Nat.le_of_ble_eq_true rfl, Nat.le_of_ble_eq_true rfl⟩) hK hP (zk_D hD rfl) hS hA [0, 1, 2, 3, 4] rfl (by decide) (fun _ => rfl) rfl rfl rfl rfl hl.1 rfl (Nat.le_of_ble_eq_true rfl) dX0_seekLookingAhead_14 ⟨Nat.zero_le _, Nat.zero_le _⟩ (fun u H locs hu2 hP hS => ?_)
  obtain ⟨fl9, fd9, fc9, le9, di9⟩ := u
  have hu2 : zr_last (zr_F g (ah + p_) (min 40 (sz - p_)) (min sp (ah + p_))) = (le9, di9) := hu2
  have hP : va_P D vwCl [(f, .inr (0, [.ref t, .int (nI sp), .int (nI dp), .ref fa, .ref fb, .int (nI fc9), .int (nI le9), .int (nI di9)])), (fa, zk_a cI 38 fl9), (fb, zk_a cI 38 fd9), (t, .inr (3, [.ref b, .int (nI ah), .int (nI sz)])), (b, zk_a cI 360 g)] H := hP
  have hb2 : le9 ≤ 40 := zr_last_le hu2
  refine lv_iload_n hx hb dX0_seekLookingAhead_17 rfl (lv_at hl 0 rfl) ?_
  refine lv_aload_n hx hb dX0_seekLookingAhead_18 rfl (lv_at hl 1 rfl) ?_
  refine va_get (D := D) (ci := 0) (v := .int (nI le9)) (C := RX0) (T := TX0) (N := 8) hx hb hts ziX0_seekLookingAhead_0 hown hK hP 0 rfl rfl 6 (by decide) f29 (fun _ h9 => h9) rfl dX0_seekLookingAhead_19 ?_
  refine zk_icmp_le (tgt := 31) hx hb (by omega) (by omega) dX0_seekLookingAhead_22 (by decide) (fun c_1 => ?_) (fun c_1 => ?_)
  · skip
    exact hret _ ls _ _ (_, _, _, _, _) dX0_seekLookingAhead_31 (by rw [hu1, hu2, if_neg (by omega)]) hP hS
  · skip
    refine lv_aload_n hx hb dX0_seekLookingAhead_25 rfl (lv_at hl 1 rfl) ?_
    refine lv_iconst (v := (nI 0)) hx hb dX0_seekLookingAhead_26 (by decide +kernel) ?_
    refine lv_iconst (v := (nI 0)) hx hb dX0_seekLookingAhead_27 (by decide +kernel) ?_
    refine zk_wrV (As := [.int (nI 0), .int (nI 0)]) (rest := []) ⟨hx, hb, hml, hown, hts⟩ hN (c_take l D cI cZ cR f t sp dp fa fb fc9 le9 di9 0 0) (cwV 2 hts gX0_seekLookingAhead_X0_take rfl rfl rfl (by decide +kernel) ⟨Nat.le_of_ble_eq_true rfl, Nat.le_of_ble_eq_true rfl⟩) hK hP (zk_D hD rfl) hS hA [0] rfl (by decide) (fun _ => rfl) rfl rfl rfl rfl hl.1 rfl (Nat.le_of_ble_eq_true rfl) dX0_seekLookingAhead_28 ⟨Nat.zero_le _, Nat.zero_le _⟩ (fun u H locs hu3 hP hS => ?_)
    have hP : va_P D vwCl [(f, .inr (0, [.ref t, .int (nI sp), .int (nI dp), .ref fa, .ref fb, .int (nI fc9), .int (nI 0), .int (nI 0)])), (fa, zk_a cI 38 fl9), (fb, zk_a cI 38 fd9), (t, .inr (3, [.ref b, .int (nI ah), .int (nI sz)])), (b, zk_a cI 360 g)] H := hP
    exact hret _ ls _ _ (_, _, _, _, _) dX0_seekLookingAhead_31 (by rw [hu1, hu2, if_pos (by omega)]) hP hS
