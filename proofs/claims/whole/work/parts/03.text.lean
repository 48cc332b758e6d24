/-! The words of the text: how far two places agree. -/
abbrev zk_t (cI cZ cR : ClassId) : List (ClassId × FieldType) := [(cI, .int), (cZ, .boolean), (cR, .object RX2)]
section ZKE
variable {p : Program} {l : Launch} {e : Env} {R : Room} {s : State} {m : MethodId} {args : Array Value} {below : List Frame} {meth : Method} {c : Code} {H : Heap} {locs : List Loc} {cells slots : Nat} {Q : State → Prop}
variable {pc : Nat} {ls : Array Slot} {rest : List Value}
theorem zk_nm {x : Nat} (k : ∀ y : Nat, y = x → W p l e R s m args below meth c H locs cells slots Q (F0 m pc ls (.int (nI y) :: rest))) : W p l e R s m args below meth c H locs cells slots Q (F0 m pc ls (.int (nI x) :: rest)) := k x rfl
end ZKE
/-- how many bytes from a on, n at most, are those from b on -/
def zr_reach (g : Nat → Nat) : Nat → Nat → Nat → Nat
  | _, _, 0 => 0
  | a, b, n + 1 => if g a = g b then zr_reach g (a + 1) (b + 1) n + 1 else 0
theorem zr_reach_le (g : Nat → Nat) : ∀ (n a b : Nat), zr_reach g a b n ≤ n
  | 0, _, _ => Nat.le_refl _
  | n + 1, a, b => by
    unfold zr_reach
    split
    · have h := zr_reach_le g n (a + 1) (b + 1); omega
    · omega
theorem zr_reach_end {g : Nat → Nat} {a b n : Nat} (h : n = 0) : zr_reach g a b n = 0 := by subst h; rfl
theorem zr_reach_ne {g : Nat → Nat} {a b n : Nat} (h : g a ≠ g b) : zr_reach g a b n = 0 := by
  cases n with
  | zero => rfl
  | succ n => unfold zr_reach; rw [if_neg h]
theorem zr_reach_eq {g : Nat → Nat} {a b n m : Nat} (h : g a = g b) (hn : n = m + 1) : zr_reach g a b n = zr_reach g (a + 1) (b + 1) m + 1 := by
  subst hn
  rw [zr_reach, if_pos h]
/-- the byte at a place, as the code tests it -/
def zr_at (g : Nat → Nat) (ah sz : Nat) (x : Int32) : Int32 := if x < -(nI ah) then -1 else if nI sz ≤ x then -1 else nI (g (x.toInt + ah).toNat)
theorem zr_negT {w : Nat} (h : w < 2 ^ 31) : (-nI w).toInt = -(w : Int) := sb_negT h
theorem zr_at_in {ah sz : Nat} {x : Int32} (ha : ah ≤ 60) (hs : sz ≤ 300) (h1 : ¬ x < -(nI ah)) (h2 : ¬ nI sz ≤ x) : nI ah + x = nI (x.toInt + ah).toNat ∧ (x.toInt + ah).toNat < ah + sz := by
  rw [Int32.lt_iff_toInt_lt, zr_negT (by omega)] at h1
  rw [Int32.le_iff_toInt_le, nI_toInt (by omega)] at h2
  have h3 : (x.toInt + ah).toNat < ah + sz := by omega
  refine ⟨?_, h3⟩
  apply Int32.toInt_inj.mp
  rw [nI_toInt (by omega), Int32.toInt_add, nI_toInt (by omega), Int.bmod_def]
  omega
/-- the first i places taken from fr on -/
def zr_cp (g : Nat → Nat) (fr i : Nat) : Nat → Nat := fun j => if j < i then g (fr + j) else g j
theorem zr_cp_0 (g : Nat → Nat) (fr : Nat) : zr_cp g fr 0 = g := by funext j; simp [zr_cp]
theorem zr_cp_s (g : Nat → Nat) (fr i : Nat) : zk_up (zr_cp g fr i) i (zr_cp g fr i (fr + i)) = zr_cp g fr (i + 1) := by
  funext j
  by_cases h : j = i
  · subst h
    have h1 : ¬ fr + j < j := by omega
    simp [zk_up, zr_cp, h1]
  · by_cases h2 : j < i
    · have h3 : j < i + 1 := by omega
      simp [zk_up, zr_cp, h, h2, h3]
    · have h3 : ¬ j < i + 1 := by omega
      simp [zk_up, zr_cp, h, h2, h3]
def rmX3_farthest : Room := { frames := 0, cells := 0, slots := 0, locals := 0 }
set_option maxRecDepth 20000 in
theorem ziX3_farthest_3 : ∀ w ∈ wsX30, w ∈ wsX3_farthest := by decide +kernel
set_option maxHeartbeats 4000000 in
set_option maxRecDepth 100000 in
/-- Text.farthest -/
theorem c_farthest (l : Launch) (D : va_G) (cI cZ cR : ClassId) (t : Nat) (b : Nat) (ah : Nat) (sz : Nat) (g : Nat → Nat) (p_ : Nat) : zk_Rd l yX3_farthest wsX3_farthest rmX3_farthest D (zk_t cI cZ cR) [.ref t, .int (nI p_)] [(t, .inr (3, [.ref b, .int (nI ah), .int (nI sz)])), (b, zk_a cI 360 g)] (nI (ah + p_)) := by
  refine zk_enterR RX3 cX3_farthest 2 .int (by decide) rfl rfl (Nat.le_of_ble_eq_true rfl) (Or.inl rfl) ?_
  intro p e s m args below meth c ls Q hx hb hml hown hts hP hK hD hN hl hret
  have hl : lv_has ls 2 [(0, .ref t), (1, .int (nI p_))] := hl
  have f19 := hts (.fieldLink RX3 19 "MatchFinders$Text" "ahead" "I") (by decide +kernel)
  refine lv_aload_n hx hb dX3_farthest_0 rfl (lv_at hl 0 rfl) ?_
  refine va_get (D := D) (ci := 3) (v := .int (nI ah)) (C := RX3) (T := TX3) (N := 3) hx hb hts ziX3_farthest_3 hown hK hP 0 rfl rfl 1 (by decide) f19 (fun _ h9 => h9) rfl dX3_farthest_1 ?_
  refine lv_iload_n hx hb dX3_farthest_4 rfl (lv_at hl 1 rfl) ?_
  refine zk_add (v := ah + p_) hx hb (rfl) dX3_farthest_5 ?_
  exact hret _ ls _ dX3_farthest_6 rfl
def rmX3_mostLength : Room := { frames := 1, cells := 0, slots := 0, locals := 21 }
set_option maxRecDepth 20000 in
theorem ziX3_mostLength_3 : ∀ w ∈ wsX30, w ∈ wsX3_mostLength := by decide +kernel
set_option maxHeartbeats 4000000 in
set_option maxRecDepth 100000 in
/-- Text.mostLength -/
theorem c_mostLength (l : Launch) (D : va_G) (cI cZ cR : ClassId) (t : Nat) (b : Nat) (ah : Nat) (sz : Nat) (g : Nat → Nat) (p_ : Nat) (h0 : p_ ≤ sz) (h1 : sz ≤ 300) : zk_Rd l yX3_mostLength wsX3_mostLength rmX3_mostLength D (zk_t cI cZ cR) [.ref t, .int (nI p_)] [(t, .inr (3, [.ref b, .int (nI ah), .int (nI sz)])), (b, zk_a cI 360 g)] (nI (min 40 (sz - p_))) := by
  refine zk_enterR RX3 cX3_mostLength 2 .int (by decide) rfl rfl (Nat.le_of_ble_eq_true rfl) (Or.inl rfl) ?_
  intro p e s m args below meth c ls Q hx hb hml hown hts hP hK hD hN hl hret
  have hl : lv_has ls 2 [(0, .ref t), (1, .int (nI p_))] := hl
  have f15 := hts (.fieldLink RX3 15 "MatchFinders$Text" "size" "I") (by decide +kernel)
  refine lv_bipush (v := (nI 40)) hx hb dX3_mostLength_0 (by decide +kernel) ?_
  refine lv_aload_n hx hb dX3_mostLength_2 rfl (lv_at hl 0 rfl) ?_
  refine va_get (D := D) (ci := 3) (v := .int (nI sz)) (C := RX3) (T := TX3) (N := 3) hx hb hts ziX3_mostLength_3 hown hK hP 0 rfl rfl 2 (by decide) f15 (fun _ h9 => h9) rfl dX3_mostLength_3 ?_
  refine lv_iload_n hx hb dX3_mostLength_6 rfl (lv_at hl 1 rfl) ?_
  refine zk_sub (v := sz - p_) hx hb (by omega) dX3_mostLength_7 ?_
  refine va_mmin hx hb (by rw [hml]; exact hl.1.symm) hown (hts (.methodLink RX3 22 Lib.Math.min.name) (by decide +kernel)) (hts (.static Lib.Math.min.name) (by decide +kernel)) (hts (.initialized "java/lang/Math") (by decide +kernel)) (hts (.code Lib.Math.min.name Lib.Math.min.code 2 (some .int)) (by decide +kernel)) (Nat.le_of_ble_eq_true rfl) (Nat.le_of_ble_eq_true rfl) (Nat.zero_le _) (Nat.zero_le _) dX3_mostLength_8 ?_
  refine zk_top (zk_minN (by omega) (by omega)) ?_
  exact hret _ ls _ dX3_mostLength_11 rfl
def rmX3_reach : Room := { frames := 0, cells := 0, slots := 0, locals := 0 }
set_option maxRecDepth 20000 in
theorem ziX3_reach_3 : ∀ w ∈ wsX30, w ∈ wsX3_reach := by decide +kernel
set_option maxHeartbeats 4000000 in
set_option maxRecDepth 100000 in
/-- Text.reach -/
theorem c_reach (l : Launch) (D : va_G) (cI cZ cR : ClassId) (t : Nat) (b : Nat) (ah : Nat) (sz : Nat) (g : Nat → Nat) (p_ : Nat) (d_ : Nat) (mo : Nat) (h0 : 1 ≤ d_) (h1 : d_ ≤ ah + p_) (h2 : ah + p_ + mo ≤ 360) (h3 : ∀ j, g j < 256) : zk_Rd l yX3_reach wsX3_reach rmX3_reach D (zk_t cI cZ cR) [.ref t, .int (nI p_), .int (nI d_), .int (nI mo)] [(t, .inr (3, [.ref b, .int (nI ah), .int (nI sz)])), (b, zk_a cI 360 g)] (nI (zr_reach g (ah + p_) (ah + p_ - d_) mo)) := by
  refine zk_enterR RX3 cX3_reach 7 .int (by decide) rfl rfl (Nat.le_of_ble_eq_true rfl) (Or.inl rfl) ?_
  intro p e s m args below meth c ls Q hx hb hml hown hts hP hK hD hN hl hret
  have hl : lv_has ls 7 [(0, .ref t), (1, .int (nI p_)), (2, .int (nI d_)), (3, .int (nI mo))] := hl
  have f9 := hts (.fieldLink RX3 9 "MatchFinders$Text" "bytes" "[I") (by decide +kernel)
  have f19 := hts (.fieldLink RX3 19 "MatchFinders$Text" "ahead" "I") (by decide +kernel)
  refine lv_aload_n hx hb dX3_reach_0 rfl (lv_at hl 0 rfl) ?_
  refine va_get (D := D) (ci := 3) (v := .int (nI ah)) (C := RX3) (T := TX3) (N := 3) hx hb hts ziX3_reach_3 hown hK hP 0 rfl rfl 1 (by decide) f19 (fun _ h9 => h9) rfl dX3_reach_1 ?_
  refine lv_iload_n hx hb dX3_reach_4 rfl (lv_at hl 1 rfl) ?_
  refine zk_add (v := ah + p_) hx hb (rfl) dX3_reach_5 ?_
  refine zk_nm (fun he h_he => ?_)
  refine lv_istore (lv' := [(4, .int (nI he)), (0, .ref t), (1, .int (nI p_)), (2, .int (nI d_)), (3, .int (nI mo))]) hx hb dX3_reach_6 hl (by decide) rfl (fun ls hl => ?_)
  refine lv_iload hx hb dX3_reach_8 (lv_at hl 0 rfl) ?_
  refine lv_iload_n hx hb dX3_reach_10 rfl (lv_at hl 3 rfl) ?_
  refine zk_sub (v := he - d_) hx hb (by omega) dX3_reach_11 ?_
  refine zk_nm (fun th h_th => ?_)
  refine lv_istore (lv' := [(5, .int (nI th)), (4, .int (nI he)), (0, .ref t), (1, .int (nI p_)), (2, .int (nI d_)), (3, .int (nI mo))]) hx hb dX3_reach_12 hl (by decide) rfl (fun ls hl => ?_)
  refine lv_iload hx hb dX3_reach_14 (lv_at hl 0 rfl) ?_
  refine zk_if_lt (tgt := 38) hx hb (by omega) dX3_reach_16 (by decide) ?_
  refine lv_iload hx hb dX3_reach_19 (lv_at hl 0 rfl) ?_
  refine lv_iload hx hb dX3_reach_21 (lv_at hl 1 rfl) ?_
  refine zk_icmp_ge (tgt := 38) hx hb (by omega) (by omega) dX3_reach_23 (by decide) (fun c_2 => absurd c_2 (by omega)) (fun c_2 => ?_)
  refine lv_iload hx hb dX3_reach_26 (lv_at hl 1 rfl) ?_
  refine lv_iload_n hx hb dX3_reach_28 rfl (lv_at hl 5 rfl) ?_
  refine zk_add (v := he + mo) hx hb (rfl) dX3_reach_29 ?_
  refine lv_aload_n hx hb dX3_reach_30 rfl (lv_at hl 2 rfl) ?_
  refine va_get (D := D) (ci := 3) (v := .ref b) (C := RX3) (T := TX3) (N := 3) hx hb hts ziX3_reach_3 hown hK hP 0 rfl rfl 0 (by decide) f9 (fun _ h9 => h9) rfl dX3_reach_31 ?_
  refine va_alen (v := nI 360) hx hb hK hP 1 0 rfl rfl rfl dX3_reach_34 ?_
  refine zk_icmp_le (tgt := 40) hx hb (by omega) (by omega) dX3_reach_35 (by decide) (fun c_3 => ?_) (fun c_3 => absurd c_3 (by omega))
  refine lv_iconst (v := (nI 0)) hx hb dX3_reach_40 (by decide +kernel) ?_
  refine lv_istore (lv' := [(6, .int (nI 0)), (5, .int (nI th)), (4, .int (nI he)), (0, .ref t), (1, .int (nI p_)), (2, .int (nI d_)), (3, .int (nI mo))]) hx hb dX3_reach_41 hl (by decide) rfl (fun ls hl => ?_)
  have L43 : ∀ (n : Nat) (i : Nat) (ls : Array Slot), (i ≤ mo) → (i + zr_reach g (he + i) (th + i) (mo - i) = zr_reach g (ah + p_) (ah + p_ - d_) mo) → (mo - i) < n → lv_has ls 7 [(0, .ref t), (1, .int (nI p_)), (2, .int (nI d_)), (3, .int (nI mo)), (4, .int (nI he)), (5, .int (nI th)), (6, .int (nI i))] → W p l e rmX3_reach s m args below meth c s.heap [] 0 0 Q (F0 m 43 ls []) := by
    intro n
    induction n with
    | zero => intro i ls g43_0 g43_1 hm hl; exact absurd hm (by omega)
    | succ n ih43 =>
      intro i ls g43_0 g43_1 hm hl
      refine lv_iload hx hb dX3_reach_43 (lv_at hl 6 rfl) ?_
      refine lv_iload_n hx hb dX3_reach_45 rfl (lv_at hl 3 rfl) ?_
      refine zk_icmp_ge (tgt := 78) hx hb (by omega) (by omega) dX3_reach_46 (by decide) (fun c_4 => ?_) (fun c_4 => ?_)
      · skip
        have hfin : i = zr_reach g (ah + p_) (ah + p_ - d_) mo := by rw [← g43_1, zr_reach_end (n := mo - i) (by omega)]; rfl
        refine lv_iload hx hb dX3_reach_78 (lv_at hl 6 rfl) ?_
        exact hret _ ls _ dX3_reach_80 (by rw [hfin])
      · skip
        refine lv_aload_n hx hb dX3_reach_49 rfl (lv_at hl 0 rfl) ?_
        refine va_get (D := D) (ci := 3) (v := .ref b) (C := RX3) (T := TX3) (N := 3) hx hb hts ziX3_reach_3 hown hK hP 0 rfl rfl 0 (by decide) f9 (fun _ h9 => h9) rfl dX3_reach_50 ?_
        refine lv_iload hx hb dX3_reach_53 (lv_at hl 4 rfl) ?_
        refine lv_iload hx hb dX3_reach_55 (lv_at hl 6 rfl) ?_
        refine zk_add (v := he + i) hx hb (rfl) dX3_reach_57 ?_
        refine zk_ild (v := g (he + i)) hx hb hK hP 1 0 (i := he + i) (g := g) rfl rfl (by omega) (by decide) rfl dX3_reach_58 ?_
        refine lv_aload_n hx hb dX3_reach_59 rfl (lv_at hl 0 rfl) ?_
        refine va_get (D := D) (ci := 3) (v := .ref b) (C := RX3) (T := TX3) (N := 3) hx hb hts ziX3_reach_3 hown hK hP 0 rfl rfl 0 (by decide) f9 (fun _ h9 => h9) rfl dX3_reach_60 ?_
        refine lv_iload hx hb dX3_reach_63 (lv_at hl 5 rfl) ?_
        refine lv_iload hx hb dX3_reach_65 (lv_at hl 6 rfl) ?_
        refine zk_add (v := th + i) hx hb (rfl) dX3_reach_67 ?_
        refine zk_ild (v := g (th + i)) hx hb hK hP 1 0 (i := th + i) (g := g) rfl rfl (by omega) (by decide) rfl dX3_reach_68 ?_
        have b1 := h3 (he + i)
        have b2 := h3 (th + i)
        refine zk_icmp_ne (tgt := 78) hx hb (by omega) (by omega) dX3_reach_69 (by decide) (fun c_5 => ?_) (fun c_5 => ?_)
        · skip
          have hfin : i = zr_reach g (ah + p_) (ah + p_ - d_) mo := by rw [← g43_1, zr_reach_ne c_5]; rfl
          refine lv_iload hx hb dX3_reach_78 (lv_at hl 6 rfl) ?_
          exact hret _ ls _ dX3_reach_80 (by rw [hfin])
        · skip
          refine lv_iinc (v := (nI (i + 1))) (lv' := [(6, .int (nI (i + 1))), (0, .ref t), (1, .int (nI p_)), (2, .int (nI d_)), (3, .int (nI mo)), (4, .int (nI he)), (5, .int (nI th))]) hx hb dX3_reach_72 hl (k := 6) rfl (by rw [show Int32.ofInt 1 = (1 : Int32) from rfl, nI_1]) (by decide) rfl (fun ls hl => ?_)
          refine lv_goto (tgt := 43) hx hb dX3_reach_75 (by decide) ?_
          exact ih43 (i + 1) ls (by omega) (by show i + 1 + zr_reach g (he + i + 1) (th + i + 1) (mo - (i + 1)) = _; rw [← g43_1, zr_reach_eq (n := mo - i) (m := mo - (i + 1)) c_5 (by omega)]; omega) (by omega) (lv_sub hl [1, 2, 3, 4, 5, 6, 0] rfl)
  exact L43 (mo - 0 + 1) 0 ls (by omega) (by rw [h_he, h_th, h_he]; exact Nat.zero_add _) (by omega) (lv_sub hl [3, 4, 5, 6, 2, 1, 0] rfl)
def rmX3_at : Room := { frames := 0, cells := 0, slots := 0, locals := 0 }
set_option maxRecDepth 20000 in
theorem ziX3_at_3 : ∀ w ∈ wsX30, w ∈ wsX3_at := by decide +kernel
set_option maxHeartbeats 4000000 in
set_option maxRecDepth 100000 in
/-- Text.at -/
theorem c_at (l : Launch) (D : va_G) (cI cZ cR : ClassId) (t : Nat) (b : Nat) (ah : Nat) (sz : Nat) (g : Nat → Nat) (x_ : Int32) (h0 : ah ≤ 60) (h1 : sz ≤ 300) : zk_Rd l yX3_at wsX3_at rmX3_at D (zk_t cI cZ cR) [.ref t, .int x_] [(t, .inr (3, [.ref b, .int (nI ah), .int (nI sz)])), (b, zk_a cI 360 g)] (zr_at g ah sz x_) := by
  refine zk_enterR RX3 cX3_at 2 .int (by decide) rfl rfl (Nat.le_of_ble_eq_true rfl) (Or.inl rfl) ?_
  intro p e s m args below meth c ls Q hx hb hml hown hts hP hK hD hN hl hret
  have hl : lv_has ls 2 [(0, .ref t), (1, .int x_)] := hl
  have f9 := hts (.fieldLink RX3 9 "MatchFinders$Text" "bytes" "[I") (by decide +kernel)
  have f15 := hts (.fieldLink RX3 15 "MatchFinders$Text" "size" "I") (by decide +kernel)
  have f19 := hts (.fieldLink RX3 19 "MatchFinders$Text" "ahead" "I") (by decide +kernel)
  refine lv_iload_n hx hb dX3_at_0 rfl (lv_at hl 1 rfl) ?_
  refine lv_aload_n hx hb dX3_at_1 rfl (lv_at hl 0 rfl) ?_
  refine va_get (D := D) (ci := 3) (v := .int (nI ah)) (C := RX3) (T := TX3) (N := 3) hx hb hts ziX3_at_3 hown hK hP 0 rfl rfl 1 (by decide) f19 (fun _ h9 => h9) rfl dX3_at_2 ?_
  refine lv_ineg hx hb dX3_at_5 ?_
  refine lv_icmp_lt (tgt := 31) hx hb dX3_at_6 (by decide) (fun c_1 => ?_) (fun c_1 => ?_)
  · skip
    have hfin : zr_at g ah sz x_ = -1 := by rw [zr_at, if_pos c_1]
    refine lv_iconst (v := (-1)) hx hb dX3_at_31 (by decide +kernel) ?_
    exact hret _ ls _ dX3_at_32 hfin.symm
  · skip
    refine lv_iload_n hx hb dX3_at_9 rfl (lv_at hl 1 rfl) ?_
    refine lv_aload_n hx hb dX3_at_10 rfl (lv_at hl 0 rfl) ?_
    refine va_get (D := D) (ci := 3) (v := .int (nI sz)) (C := RX3) (T := TX3) (N := 3) hx hb hts ziX3_at_3 hown hK hP 0 rfl rfl 2 (by decide) f15 (fun _ h9 => h9) rfl dX3_at_11 ?_
    refine lv_icmp_ge (tgt := 31) hx hb dX3_at_14 (by decide) (fun c_2 => ?_) (fun c_2 => ?_)
    · skip
      have hfin : zr_at g ah sz x_ = -1 := by rw [zr_at, if_neg c_1, if_pos c_2]
      refine lv_iconst (v := (-1)) hx hb dX3_at_31 (by decide +kernel) ?_
      exact hret _ ls _ dX3_at_32 hfin.symm
    · skip
      have hfin : zr_at g ah sz x_ = nI (g (x_.toInt + ah).toNat) := by rw [zr_at, if_neg c_1, if_neg c_2]
      refine lv_aload_n hx hb dX3_at_17 rfl (lv_at hl 0 rfl) ?_
      refine va_get (D := D) (ci := 3) (v := .ref b) (C := RX3) (T := TX3) (N := 3) hx hb hts ziX3_at_3 hown hK hP 0 rfl rfl 0 (by decide) f9 (fun _ h9 => h9) rfl dX3_at_18 ?_
      refine lv_aload_n hx hb dX3_at_21 rfl (lv_at hl 0 rfl) ?_
      refine va_get (D := D) (ci := 3) (v := .int (nI ah)) (C := RX3) (T := TX3) (N := 3) hx hb hts ziX3_at_3 hown hK hP 0 rfl rfl 1 (by decide) f19 (fun _ h9 => h9) rfl dX3_at_22 ?_
      refine lv_iload_n hx hb dX3_at_25 rfl (lv_at hl 1 rfl) ?_
      refine lv_iadd hx hb dX3_at_26 ?_
      obtain ⟨e1, e2⟩ := zr_at_in h0 h1 c_1 c_2
      refine zk_top e1 ?_
      refine zk_ild (v := g ((x_.toInt + ah).toNat)) hx hb hK hP 1 0 (i := (x_.toInt + ah).toNat) (g := g) rfl rfl (by omega) (by decide) rfl dX3_at_27 ?_
      refine lv_goto (tgt := 32) hx hb dX3_at_28 (by decide) ?_
      exact hret _ ls _ dX3_at_32 hfin.symm
def rmX3_put : Room := { frames := 0, cells := 0, slots := 0, locals := 0 }
set_option maxRecDepth 20000 in
theorem ziX3_put_3 : ∀ w ∈ wsX30, w ∈ wsX3_put := by decide +kernel
set_option maxHeartbeats 4000000 in
set_option maxRecDepth 100000 in
/-- Text.put -/
theorem c_put (l : Launch) (D : va_G) (cI cZ cR : ClassId) (t : Nat) (b : Nat) (ah : Nat) (sz : Nat) (g : Nat → Nat) (x_ : Nat) (h0 : ah ≤ 60) (h1 : sz < 300) : zk_Wv l yX3_put wsX3_put rmX3_put D (zk_t cI cZ cR) [.ref t, .int (nI x_)] [(t, .inr (3, [.ref b, .int (nI ah), .int (nI sz)])), (b, zk_a cI 360 g)] (fun _ : Unit => True) (fun _ => [(t, .inr (3, [.ref b, .int (nI ah), .int (nI (sz + 1))])), (b, zk_a cI 360 (zk_up g (ah + sz) x_))]) := by
  refine zk_enterV RX3 cX3_put 2 (by decide) rfl rfl (Nat.le_of_ble_eq_true rfl) ?_
  intro p e s m args below meth c ls A Q hx hb hml hown hts hP hK hD hN hl hA hS hret
  have hl : lv_has ls 2 [(0, .ref t), (1, .int (nI x_))] := hl
  have f9 := hts (.fieldLink RX3 9 "MatchFinders$Text" "bytes" "[I") (by decide +kernel)
  have f15 := hts (.fieldLink RX3 15 "MatchFinders$Text" "size" "I") (by decide +kernel)
  have f19 := hts (.fieldLink RX3 19 "MatchFinders$Text" "ahead" "I") (by decide +kernel)
  refine lv_aload_n hx hb dX3_put_0 rfl (lv_at hl 0 rfl) ?_
  refine va_get (D := D) (ci := 3) (v := .int (nI sz)) (C := RX3) (T := TX3) (N := 3) hx hb hts ziX3_put_3 hown hK hP 0 rfl rfl 2 (by decide) f15 (fun _ h9 => h9) rfl dX3_put_1 ?_
  refine lv_sipush (v := (nI 300)) hx hb dX3_put_4 (by decide +kernel) ?_
  refine zk_icmp_ge (tgt := 35) hx hb (by omega) (by omega) dX3_put_7 (by decide) (fun c_1 => absurd c_1 (by omega)) (fun c_1 => ?_)
  refine lv_aload_n hx hb dX3_put_10 rfl (lv_at hl 0 rfl) ?_
  refine va_get (D := D) (ci := 3) (v := .ref b) (C := RX3) (T := TX3) (N := 3) hx hb hts ziX3_put_3 hown hK hP 0 rfl rfl 0 (by decide) f9 (fun _ h9 => h9) rfl dX3_put_11 ?_
  refine lv_aload_n hx hb dX3_put_14 rfl (lv_at hl 0 rfl) ?_
  refine va_get (D := D) (ci := 3) (v := .int (nI ah)) (C := RX3) (T := TX3) (N := 3) hx hb hts ziX3_put_3 hown hK hP 0 rfl rfl 1 (by decide) f19 (fun _ h9 => h9) rfl dX3_put_15 ?_
  refine lv_aload_n hx hb dX3_put_18 rfl (lv_at hl 0 rfl) ?_
  refine va_get (D := D) (ci := 3) (v := .int (nI sz)) (C := RX3) (T := TX3) (N := 3) hx hb hts ziX3_put_3 hown hK hP 0 rfl rfl 2 (by decide) f15 (fun _ h9 => h9) rfl dX3_put_19 ?_
  refine zk_add (v := ah + sz) hx hb (rfl) dX3_put_22 ?_
  refine lv_iload_n hx hb dX3_put_23 rfl (lv_at hl 1 rfl) ?_
  refine zk_ist (i := ah + sz) (x := x_) (g := g) hx hb hK hP (zk_D hD rfl) hS 1 0 rfl rfl (by omega) (by decide) dX3_put_24 (fun H locs hP hS => ?_)
  have hP : va_P D vwCl [(t, .inr (3, [.ref b, .int (nI ah), .int (nI sz)])), (b, zk_a cI 360 (zk_up g (ah + sz) x_))] H := hP
  refine lv_aload_n hx hb dX3_put_25 rfl (lv_at hl 0 rfl) ?_
  refine lv_dup hx hb dX3_put_26 rfl ?_
  refine va_get (D := D) (ci := 3) (v := .int (nI sz)) (C := RX3) (T := TX3) (N := 3) hx hb hts ziX3_put_3 hown hK hP 0 rfl rfl 2 (by decide) f15 (fun _ h9 => h9) rfl dX3_put_27 ?_
  refine lv_iconst (v := (nI 1)) hx hb dX3_put_30 (by decide +kernel) ?_
  refine zk_add (v := sz + 1) hx hb (rfl) dX3_put_31 ?_
  refine va_put (D := D) (ci := 3) (v := .int (nI (sz + 1))) (ty := .int) (C := RX3) (T := TX3) (N := 3) hx hb hts ziX3_put_3 tyX3 tyX3_ok nmX3 hown hK hP (zk_D hD rfl) hS 0 rfl rfl 2 (by decide) f15 (fun _ h9 => h9) rfl (by decide +kernel) rfl rfl (Nat.le_of_ble_eq_true rfl) dX3_put_32 (fun H locs hP _ hS => ?_)
  have hP : va_P D vwCl [(t, .inr (3, [.ref b, .int (nI ah), .int (nI (sz + 1))])), (b, zk_a cI 360 (zk_up g (ah + sz) x_))] H := hP
  exact hret _ ls _ _ () dX3_put_35 trivial hP hS
def rmX3_becomeDictionary : Room := { frames := 1, cells := 0, slots := 0, locals := 21 }
set_option maxRecDepth 20000 in
theorem ziX3_becomeDictionary_3 : ∀ w ∈ wsX30, w ∈ wsX3_becomeDictionary := by decide +kernel
set_option maxHeartbeats 4000000 in
set_option maxRecDepth 100000 in
/-- Text.becomeDictionary -/
theorem c_becomeDictionary (l : Launch) (D : va_G) (cI cZ cR : ClassId) (t : Nat) (b : Nat) (ah : Nat) (sz : Nat) (g : Nat → Nat) (h0 : ah ≤ 60) (h1 : sz ≤ 300) : zk_Wv l yX3_becomeDictionary wsX3_becomeDictionary rmX3_becomeDictionary D (zk_t cI cZ cR) [.ref t] [(t, .inr (3, [.ref b, .int (nI ah), .int (nI sz)])), (b, zk_a cI 360 g)] (fun _ : Unit => True) (fun _ => [(t, .inr (3, [.ref b, .int (nI (min 60 sz)), .int (nI 0)])), (b, zk_a cI 360 (zr_cp g (ah + sz - min 60 sz) (min 60 sz)))]) := by
  refine zk_enterV RX3 cX3_becomeDictionary 4 (by decide) rfl rfl (Nat.le_of_ble_eq_true rfl) ?_
  intro p e s m args below meth c ls A Q hx hb hml hown hts hP hK hD hN hl hA hS hret
  have hl : lv_has ls 4 [(0, .ref t)] := hl
  have f9 := hts (.fieldLink RX3 9 "MatchFinders$Text" "bytes" "[I") (by decide +kernel)
  have f15 := hts (.fieldLink RX3 15 "MatchFinders$Text" "size" "I") (by decide +kernel)
  have f19 := hts (.fieldLink RX3 19 "MatchFinders$Text" "ahead" "I") (by decide +kernel)
  refine lv_bipush (v := (nI 60)) hx hb dX3_becomeDictionary_0 (by decide +kernel) ?_
  refine lv_aload_n hx hb dX3_becomeDictionary_2 rfl (lv_at hl 0 rfl) ?_
  refine va_get (D := D) (ci := 3) (v := .int (nI sz)) (C := RX3) (T := TX3) (N := 3) hx hb hts ziX3_becomeDictionary_3 hown hK hP 0 rfl rfl 2 (by decide) f15 (fun _ h9 => h9) rfl dX3_becomeDictionary_3 ?_
  refine va_mmin hx hb (by rw [hml]; exact hl.1.symm) hown (hts (.methodLink RX3 22 Lib.Math.min.name) (by decide +kernel)) (hts (.static Lib.Math.min.name) (by decide +kernel)) (hts (.initialized "java/lang/Math") (by decide +kernel)) (hts (.code Lib.Math.min.name Lib.Math.min.code 2 (some .int)) (by decide +kernel)) (Nat.le_of_ble_eq_true rfl) (Nat.le_of_ble_eq_true rfl) (Nat.zero_le _) (Nat.zero_le _) dX3_becomeDictionary_6 ?_
  refine zk_top (zk_minN (by omega) (by omega)) ?_
  refine zk_nm (fun ke h_ke => ?_)
  refine lv_istore_n (lv' := [(1, .int (nI ke)), (0, .ref t)]) hx hb dX3_becomeDictionary_9 rfl hl (by decide) rfl (fun ls hl => ?_)
  refine lv_aload_n hx hb dX3_becomeDictionary_10 rfl (lv_at hl 1 rfl) ?_
  refine va_get (D := D) (ci := 3) (v := .int (nI ah)) (C := RX3) (T := TX3) (N := 3) hx hb hts ziX3_becomeDictionary_3 hown hK hP 0 rfl rfl 1 (by decide) f19 (fun _ h9 => h9) rfl dX3_becomeDictionary_11 ?_
  refine lv_aload_n hx hb dX3_becomeDictionary_14 rfl (lv_at hl 1 rfl) ?_
  refine va_get (D := D) (ci := 3) (v := .int (nI sz)) (C := RX3) (T := TX3) (N := 3) hx hb hts ziX3_becomeDictionary_3 hown hK hP 0 rfl rfl 2 (by decide) f15 (fun _ h9 => h9) rfl dX3_becomeDictionary_15 ?_
  refine zk_add (v := ah + sz) hx hb (rfl) dX3_becomeDictionary_18 ?_
  refine lv_iload_n hx hb dX3_becomeDictionary_19 rfl (lv_at hl 0 rfl) ?_
  refine zk_sub (v := ah + sz - ke) hx hb (by omega) dX3_becomeDictionary_20 ?_
  refine zk_nm (fun fr h_fr => ?_)
  refine lv_istore_n (lv' := [(2, .int (nI fr)), (1, .int (nI ke)), (0, .ref t)]) hx hb dX3_becomeDictionary_21 rfl hl (by decide) rfl (fun ls hl => ?_)
  refine lv_iconst (v := (nI 0)) hx hb dX3_becomeDictionary_22 (by decide +kernel) ?_
  refine lv_istore_n (lv' := [(3, .int (nI 0)), (2, .int (nI fr)), (1, .int (nI ke)), (0, .ref t)]) hx hb dX3_becomeDictionary_23 rfl hl (by decide) rfl (fun ls hl => ?_)
  have hP : va_P D vwCl [(t, .inr (3, [.ref b, .int (nI ah), .int (nI sz)])), (b, zk_a cI 360 (zr_cp g fr 0))] s.heap := by rw [zr_cp_0]; exact hP
  have L24 : ∀ (n : Nat) (i : Nat) (ls : Array Slot) (H : Heap) (locs : List Loc), (i ≤ ke) → (ke - i) < n → va_P D vwCl [(t, .inr (3, [.ref b, .int (nI ah), .int (nI sz)])), (b, zk_a cI 360 (zr_cp g fr i))] H → va_S A s.heap H locs → lv_has ls 4 [(0, .ref t), (1, .int (nI ke)), (2, .int (nI fr)), (3, .int (nI i))] → W p l e rmX3_becomeDictionary s m args below meth c H locs 0 0 Q (F0 m 24 ls []) := by
    intro n
    induction n with
    | zero => intro i ls H locs g24_0 hm hP hS hl; exact absurd hm (by omega)
    | succ n ih24 =>
      intro i ls H locs g24_0 hm hP hS hl
      refine lv_iload_n hx hb dX3_becomeDictionary_24 rfl (lv_at hl 3 rfl) ?_
      refine lv_iload_n hx hb dX3_becomeDictionary_25 rfl (lv_at hl 1 rfl) ?_
      refine zk_icmp_ge (tgt := 49) hx hb (by omega) (by omega) dX3_becomeDictionary_26 (by decide) (fun c_1 => ?_) (fun c_1 => ?_)
      · skip
        refine lv_aload_n hx hb dX3_becomeDictionary_49 rfl (lv_at hl 0 rfl) ?_
        refine lv_iload_n hx hb dX3_becomeDictionary_50 rfl (lv_at hl 1 rfl) ?_
        refine va_put (D := D) (ci := 3) (v := .int (nI ke)) (ty := .int) (C := RX3) (T := TX3) (N := 3) hx hb hts ziX3_becomeDictionary_3 tyX3 tyX3_ok nmX3 hown hK hP (zk_D hD rfl) hS 0 rfl rfl 1 (by decide) f19 (fun _ h9 => h9) rfl (by decide +kernel) rfl rfl (Nat.le_of_ble_eq_true rfl) dX3_becomeDictionary_51 (fun H locs hP _ hS => ?_)
        have hP : va_P D vwCl [(t, .inr (3, [.ref b, .int (nI ke), .int (nI sz)])), (b, zk_a cI 360 (zr_cp g fr i))] H := hP
        refine lv_aload_n hx hb dX3_becomeDictionary_54 rfl (lv_at hl 0 rfl) ?_
        refine lv_iconst (v := (nI 0)) hx hb dX3_becomeDictionary_55 (by decide +kernel) ?_
        refine va_put (D := D) (ci := 3) (v := .int (nI 0)) (ty := .int) (C := RX3) (T := TX3) (N := 3) hx hb hts ziX3_becomeDictionary_3 tyX3 tyX3_ok nmX3 hown hK hP (zk_D hD rfl) hS 0 rfl rfl 2 (by decide) f15 (fun _ h9 => h9) rfl (by decide +kernel) rfl rfl (Nat.le_of_ble_eq_true rfl) dX3_becomeDictionary_56 (fun H locs hP _ hS => ?_)
        have hP : va_P D vwCl [(t, .inr (3, [.ref b, .int (nI ke), .int (nI 0)])), (b, zk_a cI 360 (zr_cp g fr i))] H := hP
        exact hret _ ls _ _ () dX3_becomeDictionary_59 trivial (by rw [show i = ke from by omega, h_fr, h_ke] at hP; exact hP) hS
      · skip
        refine lv_aload_n hx hb dX3_becomeDictionary_29 rfl (lv_at hl 0 rfl) ?_
        refine va_get (D := D) (ci := 3) (v := .ref b) (C := RX3) (T := TX3) (N := 3) hx hb hts ziX3_becomeDictionary_3 hown hK hP 0 rfl rfl 0 (by decide) f9 (fun _ h9 => h9) rfl dX3_becomeDictionary_30 ?_
        refine lv_iload_n hx hb dX3_becomeDictionary_33 rfl (lv_at hl 3 rfl) ?_
        refine lv_aload_n hx hb dX3_becomeDictionary_34 rfl (lv_at hl 0 rfl) ?_
        refine va_get (D := D) (ci := 3) (v := .ref b) (C := RX3) (T := TX3) (N := 3) hx hb hts ziX3_becomeDictionary_3 hown hK hP 0 rfl rfl 0 (by decide) f9 (fun _ h9 => h9) rfl dX3_becomeDictionary_35 ?_
        refine lv_iload_n hx hb dX3_becomeDictionary_38 rfl (lv_at hl 2 rfl) ?_
        refine lv_iload_n hx hb dX3_becomeDictionary_39 rfl (lv_at hl 3 rfl) ?_
        refine zk_add (v := fr + i) hx hb (rfl) dX3_becomeDictionary_40 ?_
        refine zk_ild (v := (zr_cp g fr i) (fr + i)) hx hb hK hP 1 0 (i := fr + i) (g := zr_cp g fr i) rfl rfl (by omega) (by decide) rfl dX3_becomeDictionary_41 ?_
        refine zk_ist (i := i) (x := (zr_cp g fr i) (fr + i)) (g := zr_cp g fr i) hx hb hK hP (zk_D hD rfl) hS 1 0 rfl rfl (by omega) (by decide) dX3_becomeDictionary_42 (fun H locs hP hS => ?_)
        have hP : va_P D vwCl [(t, .inr (3, [.ref b, .int (nI ah), .int (nI sz)])), (b, zk_a cI 360 (zk_up (zr_cp g fr i) i ((zr_cp g fr i) (fr + i))))] H := hP
        rw [zr_cp_s] at hP
        have hP : va_P D vwCl [(t, .inr (3, [.ref b, .int (nI ah), .int (nI sz)])), (b, zk_a cI 360 (zr_cp g fr (i + 1)))] H := hP
        refine lv_iinc (v := (nI (i + 1))) (lv' := [(3, .int (nI (i + 1))), (0, .ref t), (1, .int (nI ke)), (2, .int (nI fr))]) hx hb dX3_becomeDictionary_43 hl (k := 3) rfl (by rw [show Int32.ofInt 1 = (1 : Int32) from rfl, nI_1]) (by decide) rfl (fun ls hl => ?_)
        refine lv_goto (tgt := 24) hx hb dX3_becomeDictionary_46 (by decide) ?_
        exact ih24 (i + 1) ls _ _ (by omega) (by omega) hP hS (lv_sub hl [1, 2, 3, 0] rfl)
  exact L24 (ke - 0 + 1) 0 ls _ _ (by omega) (by omega) hP hS (lv_sub hl [3, 2, 1, 0] rfl)
