/-! The reference: its text by a view, its lengths. -/
def zr_v (B : Nat → Nat) (ah : Nat) : Nat → Nat := fun i => B (60 - ah + i)
section ZKZ
variable {p : Program} {l : Launch} {e : Env} {R : Room} {s : State} {m : MethodId} {args : Array Value} {below : List Frame} {meth : Method} {c : Code} {H : Heap} {locs : List Loc} {cells slots : Nat} {Q : State → Prop}
variable {pc : Nat} {ls : Array Slot} {rest : List Value} {cc : ByteArray} {D : va_G} {cl : List vw_C} {A : Nat → Prop} {H0 : Heap} {tys : List (ClassId × FieldType)} {ws : va_W}
theorem zk_zst (hx : p.tables.exec = Jvm.exec) (hb : c.code = cc) (hK : va_K D cl tys s) (hP : va_P D cl ws H) (hD : va_D A ws) (hS : va_S A H0 H locs) (q0 t0 : Nat) {a : Nat} {cA : ClassId} {n i x : Nat} {g : Nat → Nat} (ha : ws[q0]? = some (a, zk_a cA n g)) (ht : tys[t0]? = some (cA, .boolean)) (hi : i < n) (hn : n < 2 ^ 31) (hz : vp_nar .boolean (nI x) = nI x) (hdg : decode cc pc = .ok (.bastore, 1))
    (kk : ∀ (H1 : Heap) (locs1 : List Loc), va_P D cl (ws.set q0 (a, zk_a cA n (zk_up g i x))) H1 → va_S A H0 H1 locs1 → W p l e R s m args below meth c H1 locs1 cells slots Q (F0 m (pc + 1) ls rest)) : W p l e R s m args below meth c H locs cells slots Q (F0 m pc ls (.int (nI x) :: .int (nI i) :: .ref a :: rest)) := by
  refine va_zast hx hb hK hP hD hS q0 t0 ha ht (vp_in_nI hi hn) hdg fun H1 locs1 hP1 _ hS1 => kk H1 locs1 ?_ hS1
  rw [hz, zk_updI (by omega)] at hP1
  exact hP1
end ZKZ
theorem zk_wz3 (a b : Prop) [Decidable a] [Decidable b] : narrow .boolean (.int (if a then nI 0 else if b then nI 0 else nI 1)) = .int (if a then nI 0 else if b then nI 0 else nI 1) := zk_wz a b
theorem zk_in2 {x : Int32} {lo hi : Nat} (hl : lo ≤ hi) (hh : hi < 2 ^ 31) (h : ¬ (if x < nI lo then nI 0 else if nI hi < x then nI 0 else nI 1) = 0) : ∃ j : Nat, lo ≤ j ∧ j ≤ hi ∧ x = nI j := by
  by_cases h1 : x < nI lo
  · rw [if_pos h1] at h; exact absurd rfl h
  · by_cases h2 : nI hi < x
    · rw [if_neg h1, if_pos h2] at h; exact absurd rfl h
    · rw [Int32.lt_iff_toInt_lt, nI_toInt (by omega)] at h1 h2
      refine ⟨x.toInt.toNat, by omega, by omega, ?_⟩
      apply Int32.toInt_inj.mp
      rw [nI_toInt (by omega)]
      omega
theorem zk_in0 {x : Int32} {lo hi : Nat} (h : (if x < nI lo then nI 0 else if nI hi < x then nI 0 else nI 1) = 0) : x < nI lo ∨ nI hi < x := by
  by_cases h1 : x < nI lo
  · exact Or.inl h1
  · by_cases h2 : nI hi < x
    · exact Or.inr h2
    · rw [if_neg h1, if_neg h2] at h; exact absurd h (by decide +kernel)
theorem zk_gt_nle {x : Int32} {n : Nat} (h : nI n < x) : ¬ x ≤ nI n := by
  rw [Int32.lt_iff_toInt_lt] at h
  rw [Int32.le_iff_toInt_le]
  omega
/-- out of 0 .. hi -/
theorem zk_wout2 {α : Type} {x : Int32} {n : Nat} {a b : α} (h : x < nI 0 ∨ nI n < x) : (if x < 0 then a else if x ≤ nI n then b else a) = a := zk_wout (h.imp (fun h => by rw [nI_0] at h; exact h) zk_gt_nle)
theorem zk_pm {sz : Nat} (h : sz ≤ 300) : (nI sz - nI 1).toInt = (sz : Int) - 1 := pk_sub_toInt (by omega) (by decide)
theorem zk_inp {x : Int32} {sz : Nat} (hs : sz ≤ 300) (h : ¬ (if x < nI 0 then nI 0 else if nI sz - nI 1 < x then nI 0 else nI 1) = 0) : ∃ j : Nat, j < sz ∧ x = nI j := by
  by_cases h1 : x < nI 0
  · rw [if_pos h1] at h; exact absurd rfl h
  · by_cases h2 : nI sz - nI 1 < x
    · rw [if_neg h1, if_pos h2] at h; exact absurd rfl h
    · rw [Int32.lt_iff_toInt_lt, nI_toInt (by omega)] at h1
      rw [Int32.lt_iff_toInt_lt, zk_pm hs] at h2
      refine ⟨x.toInt.toNat, by omega, ?_⟩
      apply Int32.toInt_inj.mp
      rw [nI_toInt (by omega)]
      omega
theorem zk_inq {x : Int32} {sz : Nat} (hs : sz ≤ 300) (h : (if x < nI 0 then nI 0 else if nI sz - nI 1 < x then nI 0 else nI 1) = 0) : x < 0 ∨ nI sz ≤ x := by
  by_cases h1 : x < nI 0
  · rw [nI_0] at h1; exact Or.inl h1
  · by_cases h2 : nI sz - nI 1 < x
    · rw [Int32.lt_iff_toInt_lt, zk_pm hs] at h2
      refine Or.inr ?_
      rw [Int32.le_iff_toInt_le, nI_toInt (by omega)]
      omega
    · rw [if_neg h1, if_neg h2] at h; exact absurd h (by decide +kernel)
theorem zk_inv_t {α : Type} {x : Int32} {n : Nat} {a b : α} (h : x < 0 ∨ nI n ≤ x) : (if x < 0 then a else if nI n ≤ x then a else b) = a := zk_inv h
/-- the octet's test -/
theorem zk_oc_no {g : Nat → Nat} {ah sz : Nat} {x : Int32} (hs : sz ≤ 300) (h : (if x < -(nI ah) then nI 0 else if nI sz - nI 1 < x then nI 0 else nI 1) = 0) : zr_at g ah sz x = -1 := by
  by_cases h1 : x < -(nI ah)
  · rw [zr_at, if_pos h1]
  · by_cases h2 : nI sz - nI 1 < x
    · rw [Int32.lt_iff_toInt_lt, zk_pm hs] at h2
      rw [zr_at, if_neg h1, if_pos]
      rw [Int32.le_iff_toInt_le, nI_toInt (by omega)]
      omega
    · rw [if_neg h1, if_neg h2] at h; exact absurd h (by decide +kernel)
theorem zk_oc_in {B : Nat → Nat} {ah sz : Nat} {x : Int32} (ha : ah ≤ 60) (hs : sz ≤ 300) (h : ¬ (if x < -(nI ah) then nI 0 else if nI sz - nI 1 < x then nI 0 else nI 1) = 0) : ∃ k : Nat, k < 360 ∧ nI 60 + x = nI k ∧ zr_at (zr_v B ah) ah sz x = nI (B k) := by
  by_cases h1 : x < -(nI ah)
  · rw [if_pos h1] at h; exact absurd rfl h
  · by_cases h2 : nI sz - nI 1 < x
    · rw [if_neg h1, if_pos h2] at h; exact absurd rfl h
    · have h3 : ¬ nI sz ≤ x := by
        rw [Int32.lt_iff_toInt_lt, zk_pm hs] at h2
        rw [Int32.le_iff_toInt_le, nI_toInt (by omega)]
        omega
      obtain ⟨h4, h5⟩ := zr_at_in ha hs h1 h3
      refine ⟨60 - ah + (x.toInt + ah).toNat, by omega, ?_, ?_⟩
      · have h6 : ¬ x.toInt < -(ah : Int) := by rw [Int32.lt_iff_toInt_lt, zr_negT (by omega)] at h1; exact h1
        apply Int32.toInt_inj.mp
        have h7 : x.toInt < 300 := by rw [Int32.le_iff_toInt_le, nI_toInt (by omega)] at h3; omega
        rw [nI_toInt (by omega), Int32.toInt_add, nI_toInt (by omega), Int.bmod_def]
        omega
      · rw [zr_at, if_neg h1, if_neg h3]
        rfl
/-- a length, none below 3 -/
def zr_lg (g : Nat → Nat) (ah sz q d : Nat) : Nat := if ah + q < d then 0 else if zr_reach g (ah + q) (ah + q - d) (min 40 (sz - q)) < 3 then 0 else zr_reach g (ah + q) (ah + q - d) (min 40 (sz - q))
theorem zr_lg_le (g : Nat → Nat) (ah sz q d : Nat) : zr_lg g ah sz q d ≤ min 40 (sz - q) := by
  have h := zr_reach_le g (min 40 (sz - q)) (ah + q) (ah + q - d)
  unfold zr_lg
  split
  · omega
  · split
    · omega
    · exact h
theorem zr_lg_3 (g : Nat → Nat) (ah sz q d : Nat) : zr_lg g ah sz q d = 0 ∨ 3 ≤ zr_lg g ah sz q d := by
  unfold zr_lg
  split
  · exact Or.inl rfl
  · split
    · exact Or.inl rfl
    · exact Or.inr (by omega)
theorem zr_vB {B : Nat → Nat} {ah j k : Nat} (h : 60 - ah + j = k) : zr_v B ah j = B k := by rw [zr_v, h]
theorem zr_v_up {B : Nat → Nat} {ah sz x : Nat} (h : ah ≤ 60) : zr_v (zk_up B (60 + sz) x) ah = zk_up (zr_v B ah) (ah + sz) x := by
  funext j
  unfold zr_v zk_up
  by_cases hj : j = ah + sz
  · rw [if_pos hj, if_pos (by omega)]
  · rw [if_neg hj, if_neg (by omega)]
def zk_z4 (f : Nat → Nat) : Nat → Nat := zk_up (zk_up (zk_up (zk_up f 0 0) 1 0) 2 0) 3 0
theorem zk_z4_0 (f : Nat → Nat) : ∀ i, i < 4 → zk_z4 f i = 0 := fun i hi => by
  unfold zk_z4
  rcases (show i = 0 ∨ i = 1 ∨ i = 2 ∨ i = 3 by omega) with h | h | h | h <;> subst h <;> simp [zk_up]
/-- a row of the reference -/
def zr_mrow (w : Nat) (g : Nat → Nat) (ah sz sp dp : Nat) (ct : Nat) (P1 P2 P3 : Nat → Nat) : Prop :=
  ∃ sel, zr_ok w g ah sz sp dp sel ∧ zr_holds (zr_pcs sel sz sz 0) (fun k => P1 (300 * w + k)) (fun k => P2 (300 * w + k)) (fun k => P3 (300 * w + k)) ct
def zr_mrows (g : Nat → Nat) (ah sz sp dp : Nat) (im ct P1 P2 P3 : Nat → Nat) : Prop := ∀ i, i < 4 → im i = 0 ∨ (im i = 1 ∧ zr_mrow i g ah sz sp dp (ct i) P1 P2 P3)
theorem zr_mrows_0 {g : Nat → Nat} {ah sz sp dp : Nat} {im ct P1 P2 P3 : Nat → Nat} : zr_mrows g ah sz sp dp (zk_z4 im) ct P1 P2 P3 := fun i hi => Or.inl (zk_z4_0 im i hi)
/-- the dictionary's bytes, laid ahead of place 60 -/
def zr_mcp (B : Nat → Nat) (a f i : Nat) : Nat → Nat := fun j => if a ≤ j ∧ j < a + i then B (f + (j - a)) else B j
theorem zr_mcp_0 (B : Nat → Nat) (a f : Nat) : zr_mcp B a f 0 = B := by
  funext j
  unfold zr_mcp
  rw [if_neg (by omega)]
theorem zr_mcp_s {B : Nat → Nat} {a f i : Nat} (h : a + i ≤ f) : zk_up (zr_mcp B a f i) (a + i) (zr_mcp B a f i (f + i)) = zr_mcp B a f (i + 1) := by
  funext j
  unfold zk_up zr_mcp
  by_cases h1 : j = a + i
  · subst h1
    rw [if_pos rfl, if_neg (by omega), if_pos (by omega)]
    congr 1; omega
  · rw [if_neg h1]
    by_cases h2 : a ≤ j ∧ j < a + i
    · rw [if_pos h2, if_pos (by omega)]
    · rw [if_neg h2, if_neg (by omega)]
theorem zk_min60 {sz : Nat} (h : 60 < sz) : min 60 sz = 60 := by omega
theorem zk_min60' {sz : Nat} (h : sz ≤ 60) : min 60 sz = sz := by omega
def rmX5_in : Room := { frames := 0, cells := 0, slots := 0, locals := 0 }
set_option maxHeartbeats 4000000 in
set_option maxRecDepth 100000 in
/-- in -/
theorem c_in (l : Launch) (D : va_G) (cI cZ cR : ClassId) (v_ : Int32) (lo : Int32) (hi : Int32) : zk_Rd l yX5_in wsX5_in rmX5_in D (zk_t cI cZ cR) [.int v_, .int lo, .int hi] [] (if v_ < lo then nI 0 else if hi < v_ then nI 0 else nI 1) := by
  refine zk_enterR RX5 cX5_in 3 .boolean (by decide) rfl rfl (Nat.le_of_ble_eq_true rfl) (Or.inr ⟨rfl, zk_wz3 _ _⟩) ?_
  intro p e s m args below meth c ls Q hx hb hml hown hts hP hK hD hN hl hret
  have hl : lv_has ls 3 [(0, .int v_), (1, .int lo), (2, .int hi)] := hl
  refine lv_iload_n hx hb dX5_in_0 rfl (lv_at hl 0 rfl) ?_
  refine lv_iload_n hx hb dX5_in_1 rfl (lv_at hl 1 rfl) ?_
  refine lv_icmp_lt (tgt := 14) hx hb dX5_in_2 (by decide) (fun c_1 => ?_) (fun c_1 => ?_)
  · skip
    refine lv_iconst (v := (nI 0)) hx hb dX5_in_14 (by decide +kernel) ?_
    exact hret _ ls _ dX5_in_15 (by rw [if_pos c_1])
  · skip
    refine lv_iload_n hx hb dX5_in_5 rfl (lv_at hl 0 rfl) ?_
    refine lv_iload_n hx hb dX5_in_6 rfl (lv_at hl 2 rfl) ?_
    refine lv_icmp_gt (tgt := 14) hx hb dX5_in_7 (by decide) (fun c_2 => ?_) (fun c_2 => ?_)
    · skip
      refine lv_iconst (v := (nI 0)) hx hb dX5_in_14 (by decide +kernel) ?_
      exact hret _ ls _ dX5_in_15 (by rw [if_neg c_1, if_pos c_2])
    · skip
      refine lv_iconst (v := (nI 1)) hx hb dX5_in_10 (by decide +kernel) ?_
      refine lv_goto (tgt := 15) hx hb dX5_in_11 (by decide) ?_
      exact hret _ ls _ dX5_in_15 (by rw [if_neg c_1, if_neg c_2])
def rmX5_isWay : Room := { frames := 1, cells := 0, slots := 0, locals := 22 }
set_option maxHeartbeats 4000000 in
set_option maxRecDepth 100000 in
/-- isWay of the reference -/
theorem c_misWay (l : Launch) (D : va_G) (cI cZ cR : ClassId) (w_ : Int32) : zk_Rd l yX5_isWay wsX5_isWay rmX5_isWay D (zk_t cI cZ cR) [.int w_] [] (if w_ < nI 0 then nI 0 else if nI 3 < w_ then nI 0 else nI 1) := by
  refine zk_enterR RX5 cX5_isWay 1 .boolean (by decide) rfl rfl (Nat.le_of_ble_eq_true rfl) (Or.inr ⟨rfl, zk_wz3 _ _⟩) ?_
  intro p e s m args below meth c ls Q hx hb hml hown hts hP hK hD hN hl hret
  have hl : lv_has ls 1 [(0, .int w_)] := hl
  refine lv_iload_n hx hb dX5_isWay_0 rfl (lv_at hl 0 rfl) ?_
  refine lv_iconst (v := (nI 0)) hx hb dX5_isWay_1 (by decide +kernel) ?_
  refine lv_iconst (v := (nI 3)) hx hb dX5_isWay_2 (by decide +kernel) ?_
  refine zk_rdS (As := [.int w_, .int (nI 0), .int (nI 3)]) (rest := []) ⟨hx, hb, hml, hown, hts⟩ hN (c_in l D cI cZ cR w_ (nI 0) (nI 3)) (va_cwS 3 hts gX5_isWay_X5_in rfl rfl rfl (by decide +kernel) ⟨Nat.le_of_ble_eq_true rfl, Nat.le_of_ble_eq_true rfl⟩) hK hP hD [] rfl (by decide) rfl hl.1 rfl (Nat.le_of_ble_eq_true rfl) dX5_isWay_3 ⟨Nat.zero_le _, Nat.zero_le _⟩ ?_
  exact hret _ ls _ dX5_isWay_6 rfl
def rmX5_thrown : Room := { frames := 0, cells := 0, slots := 0, locals := 0 }
set_option maxRecDepth 20000 in
theorem ziX5_thrown_5 : ∀ w ∈ wsX50, w ∈ wsX5_thrown := by decide +kernel
set_option maxHeartbeats 4000000 in
set_option maxRecDepth 100000 in
/-- thrown -/
theorem c_thrown (l : Launch) (D : va_G) (cI cZ cR : ClassId) (m_ : Nat) (tw : Nat) (sp : Nat) (dp : Nat) (mb : Nat) (sz : Nat) (ah : Nat) (mi : Nat) (mp : Nat) (m1 : Nat) (m2 : Nat) (m3 : Nat) (mc : Nat) (ml : Nat) (bl : Nat) (bd : Nat) (rp : Nat) : zk_Rd l yX5_thrown wsX5_thrown rmX5_thrown D (zk_t cI cZ cR) [.ref m_] [(m_, .inr (5, [.int (nI tw), .int (nI sp), .int (nI dp), .ref mb, .int (nI sz), .int (nI ah), .ref mi, .ref mp, .ref m1, .ref m2, .ref m3, .ref mc, .ref ml, .int (nI bl), .int (nI bd), .int (nI rp)]))] (nI tw) := by
  refine zk_enterR RX5 cX5_thrown 1 .int (by decide) rfl rfl (Nat.le_of_ble_eq_true rfl) (Or.inl rfl) ?_
  intro p e s m args below meth c ls Q hx hb hml hown hts hP hK hD hN hl hret
  have hl : lv_has ls 1 [(0, .ref m_)] := hl
  have f42 := hts (.fieldLink RX5 42 "MatchFindersModel" "thrown" "I") (by decide +kernel)
  refine lv_aload_n hx hb dX5_thrown_0 rfl (lv_at hl 0 rfl) ?_
  refine va_get (D := D) (ci := 5) (v := .int (nI tw)) (C := RX5) (T := TX5) (N := 16) hx hb hts ziX5_thrown_5 hown hK hP 0 rfl rfl 0 (by decide) f42 (fun _ h9 => h9) rfl dX5_thrown_1 ?_
  exact hret _ ls _ dX5_thrown_4 rfl
def rmX5_forget : Room := { frames := 0, cells := 0, slots := 0, locals := 0 }
set_option maxRecDepth 20000 in
theorem ziX5_forget_5 : ∀ w ∈ wsX50, w ∈ wsX5_forget := by decide +kernel
set_option maxHeartbeats 4000000 in
set_option maxRecDepth 100000 in
/-- forget -/
theorem c_forget (l : Launch) (D : va_G) (cI cZ cR : ClassId) (m_ : Nat) (tw : Nat) (sp : Nat) (dp : Nat) (mb : Nat) (sz : Nat) (ah : Nat) (mi : Nat) (mp : Nat) (m1 : Nat) (m2 : Nat) (m3 : Nat) (mc : Nat) (ml : Nat) (bl : Nat) (bd : Nat) (rp : Nat) (im : Nat → Nat) : zk_Wv l yX5_forget wsX5_forget rmX5_forget D (zk_t cI cZ cR) [.ref m_] [(m_, .inr (5, [.int (nI tw), .int (nI sp), .int (nI dp), .ref mb, .int (nI sz), .int (nI ah), .ref mi, .ref mp, .ref m1, .ref m2, .ref m3, .ref mc, .ref ml, .int (nI bl), .int (nI bd), .int (nI rp)])), (mi, zk_a cZ 4 im)] (fun _ : Unit => True) (fun _ => [(m_, .inr (5, [.int (nI tw), .int (nI sp), .int (nI dp), .ref mb, .int (nI sz), .int (nI ah), .ref mi, .ref mp, .ref m1, .ref m2, .ref m3, .ref mc, .ref ml, .int (nI bl), .int (nI bd), .int (nI rp)])), (mi, zk_a cZ 4 (zk_z4 im))]) := by
  refine zk_enterV RX5 cX5_forget 2 (by decide) rfl rfl (Nat.le_of_ble_eq_true rfl) ?_
  intro p e s m args below meth c ls A Q hx hb hml hown hts hP hK hD hN hl hA hS hret
  have hl : lv_has ls 2 [(0, .ref m_)] := hl
  have f13 := hts (.fieldLink RX5 13 "MatchFindersModel" "isMade" "[Z") (by decide +kernel)
  refine lv_iconst (v := (nI 0)) hx hb dX5_forget_0 (by decide +kernel) ?_
  refine lv_istore_n (lv' := [(1, .int (nI 0)), (0, .ref m_)]) hx hb dX5_forget_1 rfl hl (by decide) rfl (fun ls hl => ?_)
  refine lv_iload_n hx hb dX5_forget_2 rfl (lv_at hl 0 rfl) ?_
  refine lv_iconst (v := (nI 4)) hx hb dX5_forget_3 (by decide +kernel) ?_
  refine zk_icmp_ge (tgt := 20) hx hb (by omega) (by omega) dX5_forget_4 (by decide) (fun c_1 => absurd c_1 (by omega)) (fun c_1 => ?_)
  refine lv_aload_n hx hb dX5_forget_7 rfl (lv_at hl 1 rfl) ?_
  refine va_get (D := D) (ci := 5) (v := .ref mi) (C := RX5) (T := TX5) (N := 16) hx hb hts ziX5_forget_5 hown hK hP 0 rfl rfl 6 (by decide) f13 (fun _ h9 => h9) rfl dX5_forget_8 ?_
  refine lv_iload_n hx hb dX5_forget_11 rfl (lv_at hl 0 rfl) ?_
  refine lv_iconst (v := (nI 0)) hx hb dX5_forget_12 (by decide +kernel) ?_
  refine zk_zst (i := 0) (x := 0) (g := im) hx hb hK hP (zk_D hD rfl) hS 1 1 rfl rfl (by omega) (by decide) (by decide +kernel) dX5_forget_13 (fun H locs hP hS => ?_)
  have hP : va_P D vwCl [(m_, .inr (5, [.int (nI tw), .int (nI sp), .int (nI dp), .ref mb, .int (nI sz), .int (nI ah), .ref mi, .ref mp, .ref m1, .ref m2, .ref m3, .ref mc, .ref ml, .int (nI bl), .int (nI bd), .int (nI rp)])), (mi, zk_a cZ 4 (zk_up im 0 0))] H := hP
  refine lv_iinc (v := (nI 1)) (lv' := [(1, .int (nI 1)), (0, .ref m_)]) hx hb dX5_forget_14 hl (k := 0) rfl (by rw [show Int32.ofInt 1 = (1 : Int32) from rfl, nI_1]) (by decide) rfl (fun ls hl => ?_)
  refine lv_goto (tgt := 2) hx hb dX5_forget_17 (by decide) ?_
  refine lv_iload_n hx hb dX5_forget_2 rfl (lv_at hl 0 rfl) ?_
  refine lv_iconst (v := (nI 4)) hx hb dX5_forget_3 (by decide +kernel) ?_
  refine zk_icmp_ge (tgt := 20) hx hb (by omega) (by omega) dX5_forget_4 (by decide) (fun c_2 => absurd c_2 (by omega)) (fun c_2 => ?_)
  refine lv_aload_n hx hb dX5_forget_7 rfl (lv_at hl 1 rfl) ?_
  refine va_get (D := D) (ci := 5) (v := .ref mi) (C := RX5) (T := TX5) (N := 16) hx hb hts ziX5_forget_5 hown hK hP 0 rfl rfl 6 (by decide) f13 (fun _ h9 => h9) rfl dX5_forget_8 ?_
  refine lv_iload_n hx hb dX5_forget_11 rfl (lv_at hl 0 rfl) ?_
  refine lv_iconst (v := (nI 0)) hx hb dX5_forget_12 (by decide +kernel) ?_
  refine zk_zst (i := 1) (x := 0) (g := zk_up im 0 0) hx hb hK hP (zk_D hD rfl) hS 1 1 rfl rfl (by omega) (by decide) (by decide +kernel) dX5_forget_13 (fun H locs hP hS => ?_)
  have hP : va_P D vwCl [(m_, .inr (5, [.int (nI tw), .int (nI sp), .int (nI dp), .ref mb, .int (nI sz), .int (nI ah), .ref mi, .ref mp, .ref m1, .ref m2, .ref m3, .ref mc, .ref ml, .int (nI bl), .int (nI bd), .int (nI rp)])), (mi, zk_a cZ 4 (zk_up (zk_up im 0 0) 1 0))] H := hP
  refine lv_iinc (v := (nI 2)) (lv' := [(1, .int (nI 2)), (0, .ref m_)]) hx hb dX5_forget_14 hl (k := 0) rfl (by rw [show Int32.ofInt 1 = (1 : Int32) from rfl, nI_1]) (by decide) rfl (fun ls hl => ?_)
  refine lv_goto (tgt := 2) hx hb dX5_forget_17 (by decide) ?_
  refine lv_iload_n hx hb dX5_forget_2 rfl (lv_at hl 0 rfl) ?_
  refine lv_iconst (v := (nI 4)) hx hb dX5_forget_3 (by decide +kernel) ?_
  refine zk_icmp_ge (tgt := 20) hx hb (by omega) (by omega) dX5_forget_4 (by decide) (fun c_3 => absurd c_3 (by omega)) (fun c_3 => ?_)
  refine lv_aload_n hx hb dX5_forget_7 rfl (lv_at hl 1 rfl) ?_
  refine va_get (D := D) (ci := 5) (v := .ref mi) (C := RX5) (T := TX5) (N := 16) hx hb hts ziX5_forget_5 hown hK hP 0 rfl rfl 6 (by decide) f13 (fun _ h9 => h9) rfl dX5_forget_8 ?_
  refine lv_iload_n hx hb dX5_forget_11 rfl (lv_at hl 0 rfl) ?_
  refine lv_iconst (v := (nI 0)) hx hb dX5_forget_12 (by decide +kernel) ?_
  refine zk_zst (i := 2) (x := 0) (g := zk_up (zk_up im 0 0) 1 0) hx hb hK hP (zk_D hD rfl) hS 1 1 rfl rfl (by omega) (by decide) (by decide +kernel) dX5_forget_13 (fun H locs hP hS => ?_)
  have hP : va_P D vwCl [(m_, .inr (5, [.int (nI tw), .int (nI sp), .int (nI dp), .ref mb, .int (nI sz), .int (nI ah), .ref mi, .ref mp, .ref m1, .ref m2, .ref m3, .ref mc, .ref ml, .int (nI bl), .int (nI bd), .int (nI rp)])), (mi, zk_a cZ 4 (zk_up (zk_up (zk_up im 0 0) 1 0) 2 0))] H := hP
  refine lv_iinc (v := (nI 3)) (lv' := [(1, .int (nI 3)), (0, .ref m_)]) hx hb dX5_forget_14 hl (k := 0) rfl (by rw [show Int32.ofInt 1 = (1 : Int32) from rfl, nI_1]) (by decide) rfl (fun ls hl => ?_)
  refine lv_goto (tgt := 2) hx hb dX5_forget_17 (by decide) ?_
  refine lv_iload_n hx hb dX5_forget_2 rfl (lv_at hl 0 rfl) ?_
  refine lv_iconst (v := (nI 4)) hx hb dX5_forget_3 (by decide +kernel) ?_
  refine zk_icmp_ge (tgt := 20) hx hb (by omega) (by omega) dX5_forget_4 (by decide) (fun c_4 => absurd c_4 (by omega)) (fun c_4 => ?_)
  refine lv_aload_n hx hb dX5_forget_7 rfl (lv_at hl 1 rfl) ?_
  refine va_get (D := D) (ci := 5) (v := .ref mi) (C := RX5) (T := TX5) (N := 16) hx hb hts ziX5_forget_5 hown hK hP 0 rfl rfl 6 (by decide) f13 (fun _ h9 => h9) rfl dX5_forget_8 ?_
  refine lv_iload_n hx hb dX5_forget_11 rfl (lv_at hl 0 rfl) ?_
  refine lv_iconst (v := (nI 0)) hx hb dX5_forget_12 (by decide +kernel) ?_
  refine zk_zst (i := 3) (x := 0) (g := zk_up (zk_up (zk_up im 0 0) 1 0) 2 0) hx hb hK hP (zk_D hD rfl) hS 1 1 rfl rfl (by omega) (by decide) (by decide +kernel) dX5_forget_13 (fun H locs hP hS => ?_)
  have hP : va_P D vwCl [(m_, .inr (5, [.int (nI tw), .int (nI sp), .int (nI dp), .ref mb, .int (nI sz), .int (nI ah), .ref mi, .ref mp, .ref m1, .ref m2, .ref m3, .ref mc, .ref ml, .int (nI bl), .int (nI bd), .int (nI rp)])), (mi, zk_a cZ 4 (zk_up (zk_up (zk_up (zk_up im 0 0) 1 0) 2 0) 3 0))] H := hP
  refine lv_iinc (v := (nI 4)) (lv' := [(1, .int (nI 4)), (0, .ref m_)]) hx hb dX5_forget_14 hl (k := 0) rfl (by rw [show Int32.ofInt 1 = (1 : Int32) from rfl, nI_1]) (by decide) rfl (fun ls hl => ?_)
  refine lv_goto (tgt := 2) hx hb dX5_forget_17 (by decide) ?_
  refine lv_iload_n hx hb dX5_forget_2 rfl (lv_at hl 0 rfl) ?_
  refine lv_iconst (v := (nI 4)) hx hb dX5_forget_3 (by decide +kernel) ?_
  refine zk_icmp_ge (tgt := 20) hx hb (by omega) (by omega) dX5_forget_4 (by decide) (fun c_5 => ?_) (fun c_5 => absurd c_5 (by omega))
  exact hret _ ls _ _ () dX5_forget_20 trivial hP hS
def rmX5_lay : Room := { frames := 0, cells := 0, slots := 0, locals := 0 }
set_option maxRecDepth 20000 in
theorem ziX5_lay_5 : ∀ w ∈ wsX50, w ∈ wsX5_lay := by decide +kernel
set_option maxHeartbeats 4000000 in
set_option maxRecDepth 100000 in
/-- lay -/
theorem c_lay (l : Launch) (D : va_G) (cI cZ cR : ClassId) (m_ : Nat) (tw : Nat) (sp : Nat) (dp : Nat) (mb : Nat) (sz : Nat) (ah : Nat) (mi : Nat) (mp : Nat) (m1 : Nat) (m2 : Nat) (m3 : Nat) (mc : Nat) (ml : Nat) (bl : Nat) (bd : Nat) (rp : Nat) (B : Nat → Nat) (x_ : Nat) (h0 : sz < 300) : zk_Wv l yX5_lay wsX5_lay rmX5_lay D (zk_t cI cZ cR) [.ref m_, .int (nI x_)] [(m_, .inr (5, [.int (nI tw), .int (nI sp), .int (nI dp), .ref mb, .int (nI sz), .int (nI ah), .ref mi, .ref mp, .ref m1, .ref m2, .ref m3, .ref mc, .ref ml, .int (nI bl), .int (nI bd), .int (nI rp)])), (mb, zk_a cI 360 B)] (fun _ : Unit => True) (fun _ => [(m_, .inr (5, [.int (nI tw), .int (nI sp), .int (nI dp), .ref mb, .int (nI (sz + 1)), .int (nI ah), .ref mi, .ref mp, .ref m1, .ref m2, .ref m3, .ref mc, .ref ml, .int (nI bl), .int (nI bd), .int (nI rp)])), (mb, zk_a cI 360 (zk_up B (60 + sz) x_))]) := by
  refine zk_enterV RX5 cX5_lay 2 (by decide) rfl rfl (Nat.le_of_ble_eq_true rfl) ?_
  intro p e s m args below meth c ls A Q hx hb hml hown hts hP hK hD hN hl hA hS hret
  have hl : lv_has ls 2 [(0, .ref m_), (1, .int (nI x_))] := hl
  have f7 := hts (.fieldLink RX5 7 "MatchFindersModel" "bytes" "[I") (by decide +kernel)
  have f45 := hts (.fieldLink RX5 45 "MatchFindersModel" "size" "I") (by decide +kernel)
  refine lv_aload_n hx hb dX5_lay_0 rfl (lv_at hl 0 rfl) ?_
  refine va_get (D := D) (ci := 5) (v := .ref mb) (C := RX5) (T := TX5) (N := 16) hx hb hts ziX5_lay_5 hown hK hP 0 rfl rfl 3 (by decide) f7 (fun _ h9 => h9) rfl dX5_lay_1 ?_
  refine lv_bipush (v := (nI 60)) hx hb dX5_lay_4 (by decide +kernel) ?_
  refine lv_aload_n hx hb dX5_lay_6 rfl (lv_at hl 0 rfl) ?_
  refine va_get (D := D) (ci := 5) (v := .int (nI sz)) (C := RX5) (T := TX5) (N := 16) hx hb hts ziX5_lay_5 hown hK hP 0 rfl rfl 4 (by decide) f45 (fun _ h9 => h9) rfl dX5_lay_7 ?_
  refine zk_add (v := 60 + sz) hx hb (rfl) dX5_lay_10 ?_
  refine lv_iload_n hx hb dX5_lay_11 rfl (lv_at hl 1 rfl) ?_
  refine zk_ist (i := 60 + sz) (x := x_) (g := B) hx hb hK hP (zk_D hD rfl) hS 1 0 rfl rfl (by omega) (by decide) dX5_lay_12 (fun H locs hP hS => ?_)
  have hP : va_P D vwCl [(m_, .inr (5, [.int (nI tw), .int (nI sp), .int (nI dp), .ref mb, .int (nI sz), .int (nI ah), .ref mi, .ref mp, .ref m1, .ref m2, .ref m3, .ref mc, .ref ml, .int (nI bl), .int (nI bd), .int (nI rp)])), (mb, zk_a cI 360 (zk_up B (60 + sz) x_))] H := hP
  refine lv_aload_n hx hb dX5_lay_13 rfl (lv_at hl 0 rfl) ?_
  refine lv_dup hx hb dX5_lay_14 rfl ?_
  refine va_get (D := D) (ci := 5) (v := .int (nI sz)) (C := RX5) (T := TX5) (N := 16) hx hb hts ziX5_lay_5 hown hK hP 0 rfl rfl 4 (by decide) f45 (fun _ h9 => h9) rfl dX5_lay_15 ?_
  refine lv_iconst (v := (nI 1)) hx hb dX5_lay_18 (by decide +kernel) ?_
  refine zk_add (v := sz + 1) hx hb (rfl) dX5_lay_19 ?_
  refine va_put (D := D) (ci := 5) (v := .int (nI (sz + 1))) (ty := .int) (C := RX5) (T := TX5) (N := 16) hx hb hts ziX5_lay_5 tyX5 tyX5_ok nmX5 hown hK hP (zk_D hD rfl) hS 0 rfl rfl 4 (by decide) f45 (fun _ h9 => h9) rfl (by decide +kernel) rfl rfl (Nat.le_of_ble_eq_true rfl) dX5_lay_20 (fun H locs hP _ hS => ?_)
  have hP : va_P D vwCl [(m_, .inr (5, [.int (nI tw), .int (nI sp), .int (nI dp), .ref mb, .int (nI (sz + 1)), .int (nI ah), .ref mi, .ref mp, .ref m1, .ref m2, .ref m3, .ref mc, .ref ml, .int (nI bl), .int (nI bd), .int (nI rp)])), (mb, zk_a cI 360 (zk_up B (60 + sz) x_))] H := hP
  exact hret _ ls _ _ () dX5_lay_23 trivial hP hS
def rmX5_g : Room := { frames := 0, cells := 0, slots := 0, locals := 0 }
set_option maxHeartbeats 4000000 in
set_option maxRecDepth 100000 in
/-- g -/
theorem c_g (l : Launch) (D : va_G) (cI cZ cR : ClassId) (x_ : Nat) (h0 : x_ < 65536) : zk_Rd l yX5_g wsX5_g rmX5_g D (zk_t cI cZ cR) [.int (nI x_)] [] (nI (zr_G x_)) := by
  refine zk_enterR RX5 cX5_g 3 .int (by decide) rfl rfl (Nat.le_of_ble_eq_true rfl) (Or.inl rfl) ?_
  intro p e s m args below meth c ls Q hx hb hml hown hts hP hK hD hN hl hret
  have hl : lv_has ls 3 [(0, .int (nI x_))] := hl
  refine lv_iconst (v := (nI 1)) hx hb dX5_g_0 (by decide +kernel) ?_
  refine lv_istore_n (lv' := [(1, .int (nI 1)), (0, .int (nI x_))]) hx hb dX5_g_1 rfl hl (by decide) rfl (fun ls hl => ?_)
  refine lv_iload_n hx hb dX5_g_2 rfl (lv_at hl 1 rfl) ?_
  refine lv_istore_n (lv' := [(2, .int (nI x_)), (1, .int (nI 1)), (0, .int (nI x_))]) hx hb dX5_g_3 rfl hl (by decide) rfl (fun ls hl => ?_)
  have L4 : ∀ (n : Nat) (bi : Nat) (re : Nat) (ls : Array Slot), (re < 65536) → (bi + zr_G re = zr_G x_ + 1) → (re) < n → lv_has ls 3 [(0, .int (nI x_)), (1, .int (nI bi)), (2, .int (nI re))] → W p l e rmX5_g s m args below meth c s.heap [] 0 0 Q (F0 m 4 ls []) := by
    intro n
    induction n with
    | zero => intro bi re ls g4_0 g4_1 hm hl; exact absurd hm (by omega)
    | succ n ih4 =>
      intro bi re ls g4_0 g4_1 hm hl
      refine lv_iload_n hx hb dX5_g_4 rfl (lv_at hl 2 rfl) ?_
      refine lv_iconst (v := (nI 1)) hx hb dX5_g_5 (by decide +kernel) ?_
      refine zk_icmp_le (tgt := 19) hx hb (by omega) (by omega) dX5_g_6 (by decide) (fun c_1 => ?_) (fun c_1 => ?_)
      · skip
        rw [zr_G_1 (x := re) c_1] at g4_1
        refine lv_iload_n hx hb dX5_g_19 rfl (lv_at hl 1 rfl) ?_
        exact hret _ ls _ dX5_g_20 (by rw [show bi = zr_G x_ by omega])
      · skip
        refine lv_iinc (v := (nI (bi + 2))) (lv' := [(1, .int (nI (bi + 2))), (0, .int (nI x_)), (2, .int (nI re))]) hx hb dX5_g_9 hl (k := 1) rfl (zk_inc2 bi) (by decide) rfl (fun ls hl => ?_)
        refine lv_iload_n hx hb dX5_g_12 rfl (lv_at hl 2 rfl) ?_
        refine lv_iconst (v := (nI 2)) hx hb dX5_g_13 (by decide +kernel) ?_
        refine zk_div (v := re / 2) hx hb (by omega) (by omega) (by omega) rfl dX5_g_14 ?_
        refine lv_istore_n (lv' := [(2, .int (nI (re / 2))), (1, .int (nI (bi + 2))), (0, .int (nI x_))]) hx hb dX5_g_15 rfl hl (by decide) rfl (fun ls hl => ?_)
        refine lv_goto (tgt := 4) hx hb dX5_g_16 (by decide) ?_
        exact ih4 (bi + 2) (re / 2) ls (by omega) (by rw [zr_G_s c_1] at g4_1; omega) (by omega) (lv_sub hl [2, 1, 0] rfl)
  exact L4 (x_ + 1) 1 x_ ls (by omega) (by omega) (by omega) (lv_sub hl [2, 1, 0] rfl)
def rmX5_lay_ : Room := { frames := 0, cells := 0, slots := 0, locals := 0 }
set_option maxRecDepth 20000 in
theorem ziX5_lay__5 : ∀ w ∈ wsX50, w ∈ wsX5_lay_ := by decide +kernel
set_option maxHeartbeats 4000000 in
set_option maxRecDepth 100000 in
/-- lay of a piece -/
theorem c_lay4 (l : Launch) (D : va_G) (cI cZ cR : ClassId) (m_ : Nat) (tw : Nat) (sp : Nat) (dp : Nat) (mb : Nat) (sz : Nat) (ah : Nat) (mi : Nat) (mp : Nat) (m1 : Nat) (m2 : Nat) (m3 : Nat) (mc : Nat) (ml : Nat) (bl : Nat) (bd : Nat) (rp : Nat) (pc : Nat → Nat) (P1 : Nat → Nat) (P2 : Nat → Nat) (P3 : Nat → Nat) (w_ : Nat) (p_ : Nat) (l_ : Nat) (d_ : Nat) (h0 : w_ ≤ 3) (h1 : pc w_ < 300) : zk_Wv l yX5_lay_ wsX5_lay_ rmX5_lay_ D (zk_t cI cZ cR) [.ref m_, .int (nI w_), .int (nI p_), .int (nI l_), .int (nI d_)] [(m_, .inr (5, [.int (nI tw), .int (nI sp), .int (nI dp), .ref mb, .int (nI sz), .int (nI ah), .ref mi, .ref mp, .ref m1, .ref m2, .ref m3, .ref mc, .ref ml, .int (nI bl), .int (nI bd), .int (nI rp)])), (mp, zk_a cI 4 pc), (m1, zk_a cI 1200 P1), (m2, zk_a cI 1200 P2), (m3, zk_a cI 1200 P3)] (fun _ : Unit => True) (fun _ => [(m_, .inr (5, [.int (nI tw), .int (nI sp), .int (nI dp), .ref mb, .int (nI sz), .int (nI ah), .ref mi, .ref mp, .ref m1, .ref m2, .ref m3, .ref mc, .ref ml, .int (nI bl), .int (nI bd), .int (nI rp)])), (mp, zk_a cI 4 (zk_up pc w_ (pc w_ + 1))), (m1, zk_a cI 1200 (zk_up P1 (300 * w_ + pc w_) p_)), (m2, zk_a cI 1200 (zk_up P2 (300 * w_ + pc w_) l_)), (m3, zk_a cI 1200 (zk_up P3 (300 * w_ + pc w_) d_))]) := by
  refine zk_enterV RX5 cX5_lay_ 6 (by decide) rfl rfl (Nat.le_of_ble_eq_true rfl) ?_
  intro p e s m args below meth c ls A Q hx hb hml hown hts hP hK hD hN hl hA hS hret
  have hl : lv_has ls 6 [(0, .ref m_), (1, .int (nI w_)), (2, .int (nI p_)), (3, .int (nI l_)), (4, .int (nI d_))] := hl
  have f17 := hts (.fieldLink RX5 17 "MatchFindersModel" "pieces" "[I") (by decide +kernel)
  have f20 := hts (.fieldLink RX5 20 "MatchFindersModel" "place" "[I") (by decide +kernel)
  have f23 := hts (.fieldLink RX5 23 "MatchFindersModel" "length" "[I") (by decide +kernel)
  have f26 := hts (.fieldLink RX5 26 "MatchFindersModel" "distance" "[I") (by decide +kernel)
  refine lv_sipush (v := (nI 300)) hx hb dX5_lay__0 (by decide +kernel) ?_
  refine lv_iload_n hx hb dX5_lay__3 rfl (lv_at hl 1 rfl) ?_
  refine zk_mul (v := 300 * w_) hx hb rfl dX5_lay__4 ?_
  refine lv_aload_n hx hb dX5_lay__5 rfl (lv_at hl 0 rfl) ?_
  refine va_get (D := D) (ci := 5) (v := .ref mp) (C := RX5) (T := TX5) (N := 16) hx hb hts ziX5_lay__5 hown hK hP 0 rfl rfl 7 (by decide) f17 (fun _ h9 => h9) rfl dX5_lay__6 ?_
  refine lv_iload_n hx hb dX5_lay__9 rfl (lv_at hl 1 rfl) ?_
  refine zk_ild (v := pc w_) hx hb hK hP 1 0 (i := w_) (g := pc) rfl rfl (by omega) (by decide) rfl dX5_lay__10 ?_
  refine zk_add (v := (300 * w_) + (pc w_)) hx hb (rfl) dX5_lay__11 ?_
  refine lv_istore (lv' := [(5, .int (nI ((300 * w_) + (pc w_)))), (0, .ref m_), (1, .int (nI w_)), (2, .int (nI p_)), (3, .int (nI l_)), (4, .int (nI d_))]) hx hb dX5_lay__12 hl (by decide) rfl (fun ls hl => ?_)
  refine lv_aload_n hx hb dX5_lay__14 rfl (lv_at hl 1 rfl) ?_
  refine va_get (D := D) (ci := 5) (v := .ref m1) (C := RX5) (T := TX5) (N := 16) hx hb hts ziX5_lay__5 hown hK hP 0 rfl rfl 8 (by decide) f20 (fun _ h9 => h9) rfl dX5_lay__15 ?_
  refine lv_iload hx hb dX5_lay__18 (lv_at hl 0 rfl) ?_
  refine lv_iload_n hx hb dX5_lay__20 rfl (lv_at hl 3 rfl) ?_
  refine zk_ist (i := (300 * w_) + (pc w_)) (x := p_) (g := P1) hx hb hK hP (zk_D hD rfl) hS 2 0 rfl rfl (by omega) (by decide) dX5_lay__21 (fun H locs hP hS => ?_)
  have hP : va_P D vwCl [(m_, .inr (5, [.int (nI tw), .int (nI sp), .int (nI dp), .ref mb, .int (nI sz), .int (nI ah), .ref mi, .ref mp, .ref m1, .ref m2, .ref m3, .ref mc, .ref ml, .int (nI bl), .int (nI bd), .int (nI rp)])), (mp, zk_a cI 4 pc), (m1, zk_a cI 1200 (zk_up P1 ((300 * w_) + (pc w_)) p_)), (m2, zk_a cI 1200 P2), (m3, zk_a cI 1200 P3)] H := hP
  refine lv_aload_n hx hb dX5_lay__22 rfl (lv_at hl 1 rfl) ?_
  refine va_get (D := D) (ci := 5) (v := .ref m2) (C := RX5) (T := TX5) (N := 16) hx hb hts ziX5_lay__5 hown hK hP 0 rfl rfl 9 (by decide) f23 (fun _ h9 => h9) rfl dX5_lay__23 ?_
  refine lv_iload hx hb dX5_lay__26 (lv_at hl 0 rfl) ?_
  refine lv_iload_n hx hb dX5_lay__28 rfl (lv_at hl 4 rfl) ?_
  refine zk_ist (i := (300 * w_) + (pc w_)) (x := l_) (g := P2) hx hb hK hP (zk_D hD rfl) hS 3 0 rfl rfl (by omega) (by decide) dX5_lay__29 (fun H locs hP hS => ?_)
  have hP : va_P D vwCl [(m_, .inr (5, [.int (nI tw), .int (nI sp), .int (nI dp), .ref mb, .int (nI sz), .int (nI ah), .ref mi, .ref mp, .ref m1, .ref m2, .ref m3, .ref mc, .ref ml, .int (nI bl), .int (nI bd), .int (nI rp)])), (mp, zk_a cI 4 pc), (m1, zk_a cI 1200 (zk_up P1 ((300 * w_) + (pc w_)) p_)), (m2, zk_a cI 1200 (zk_up P2 ((300 * w_) + (pc w_)) l_)), (m3, zk_a cI 1200 P3)] H := hP
  refine lv_aload_n hx hb dX5_lay__30 rfl (lv_at hl 1 rfl) ?_
  refine va_get (D := D) (ci := 5) (v := .ref m3) (C := RX5) (T := TX5) (N := 16) hx hb hts ziX5_lay__5 hown hK hP 0 rfl rfl 10 (by decide) f26 (fun _ h9 => h9) rfl dX5_lay__31 ?_
  refine lv_iload hx hb dX5_lay__34 (lv_at hl 0 rfl) ?_
  refine lv_iload hx hb dX5_lay__36 (lv_at hl 5 rfl) ?_
  refine zk_ist (i := (300 * w_) + (pc w_)) (x := d_) (g := P3) hx hb hK hP (zk_D hD rfl) hS 4 0 rfl rfl (by omega) (by decide) dX5_lay__38 (fun H locs hP hS => ?_)
  have hP : va_P D vwCl [(m_, .inr (5, [.int (nI tw), .int (nI sp), .int (nI dp), .ref mb, .int (nI sz), .int (nI ah), .ref mi, .ref mp, .ref m1, .ref m2, .ref m3, .ref mc, .ref ml, .int (nI bl), .int (nI bd), .int (nI rp)])), (mp, zk_a cI 4 pc), (m1, zk_a cI 1200 (zk_up P1 ((300 * w_) + (pc w_)) p_)), (m2, zk_a cI 1200 (zk_up P2 ((300 * w_) + (pc w_)) l_)), (m3, zk_a cI 1200 (zk_up P3 ((300 * w_) + (pc w_)) d_))] H := hP
  refine lv_aload_n hx hb dX5_lay__39 rfl (lv_at hl 1 rfl) ?_
  refine va_get (D := D) (ci := 5) (v := .ref mp) (C := RX5) (T := TX5) (N := 16) hx hb hts ziX5_lay__5 hown hK hP 0 rfl rfl 7 (by decide) f17 (fun _ h9 => h9) rfl dX5_lay__40 ?_
  refine lv_iload_n hx hb dX5_lay__43 rfl (lv_at hl 2 rfl) ?_
  refine lv_dup2_11 hx hb dX5_lay__44 rfl rfl ?_
  refine zk_ild (v := pc w_) hx hb hK hP 1 0 (i := w_) (g := pc) rfl rfl (by omega) (by decide) rfl dX5_lay__45 ?_
  refine lv_iconst (v := (nI 1)) hx hb dX5_lay__46 (by decide +kernel) ?_
  refine zk_add (v := (pc w_) + 1) hx hb (rfl) dX5_lay__47 ?_
  refine zk_ist (i := w_) (x := (pc w_) + 1) (g := pc) hx hb hK hP (zk_D hD rfl) hS 1 0 rfl rfl (by omega) (by decide) dX5_lay__48 (fun H locs hP hS => ?_)
  have hP : va_P D vwCl [(m_, .inr (5, [.int (nI tw), .int (nI sp), .int (nI dp), .ref mb, .int (nI sz), .int (nI ah), .ref mi, .ref mp, .ref m1, .ref m2, .ref m3, .ref mc, .ref ml, .int (nI bl), .int (nI bd), .int (nI rp)])), (mp, zk_a cI 4 (zk_up pc w_ ((pc w_) + 1))), (m1, zk_a cI 1200 (zk_up P1 ((300 * w_) + (pc w_)) p_)), (m2, zk_a cI 1200 (zk_up P2 ((300 * w_) + (pc w_)) l_)), (m3, zk_a cI 1200 (zk_up P3 ((300 * w_) + (pc w_)) d_))] H := hP
  exact hret _ ls _ _ () dX5_lay__49 trivial hP hS
def rmX5_longAt : Room := { frames := 0, cells := 0, slots := 0, locals := 0 }
set_option maxRecDepth 20000 in
theorem ziX5_longAt_5 : ∀ w ∈ wsX50, w ∈ wsX5_longAt := by decide +kernel
set_option maxHeartbeats 4000000 in
set_option maxRecDepth 100000 in
/-- longAt -/
theorem c_longAt (l : Launch) (D : va_G) (cI cZ cR : ClassId) (m_ : Nat) (tw : Nat) (sp : Nat) (dp : Nat) (mb : Nat) (sz : Nat) (ah : Nat) (mi : Nat) (mp : Nat) (m1 : Nat) (m2 : Nat) (m3 : Nat) (mc : Nat) (ml : Nat) (bl : Nat) (bd : Nat) (rp : Nat) (B : Nat → Nat) (p_ : Nat) (d_ : Nat) (h0 : ah ≤ 60) (h1 : sz ≤ 300) (h2 : p_ ≤ sz) (h3 : 1 ≤ d_) (h4 : d_ ≤ 300) (h5 : ∀ j, B j < 256) : zk_Rd l yX5_longAt wsX5_longAt rmX5_longAt D (zk_t cI cZ cR) [.ref m_, .int (nI p_), .int (nI d_)] [(m_, .inr (5, [.int (nI tw), .int (nI sp), .int (nI dp), .ref mb, .int (nI sz), .int (nI ah), .ref mi, .ref mp, .ref m1, .ref m2, .ref m3, .ref mc, .ref ml, .int (nI bl), .int (nI bd), .int (nI rp)])), (mb, zk_a cI 360 B)] (nI (zr_lg (zr_v B ah) ah sz p_ d_)) := by
  refine zk_enterR RX5 cX5_longAt 4 .int (by decide) rfl rfl (Nat.le_of_ble_eq_true rfl) (Or.inl rfl) ?_
  intro p e s m args below meth c ls Q hx hb hml hown hts hP hK hD hN hl hret
  have hl : lv_has ls 4 [(0, .ref m_), (1, .int (nI p_)), (2, .int (nI d_))] := hl
  have f7 := hts (.fieldLink RX5 7 "MatchFindersModel" "bytes" "[I") (by decide +kernel)
  have f45 := hts (.fieldLink RX5 45 "MatchFindersModel" "size" "I") (by decide +kernel)
  have f60 := hts (.fieldLink RX5 60 "MatchFindersModel" "ahead" "I") (by decide +kernel)
  refine lv_iload_n hx hb dX5_longAt_0 rfl (lv_at hl 2 rfl) ?_
  refine lv_iload_n hx hb dX5_longAt_1 rfl (lv_at hl 1 rfl) ?_
  refine lv_aload_n hx hb dX5_longAt_2 rfl (lv_at hl 0 rfl) ?_
  refine va_get (D := D) (ci := 5) (v := .int (nI ah)) (C := RX5) (T := TX5) (N := 16) hx hb hts ziX5_longAt_5 hown hK hP 0 rfl rfl 5 (by decide) f60 (fun _ h9 => h9) rfl dX5_longAt_3 ?_
  refine zk_add (v := p_ + ah) hx hb (rfl) dX5_longAt_6 ?_
  refine zk_icmp_le (tgt := 12) hx hb (by omega) (by omega) dX5_longAt_7 (by decide) (fun c_1 => ?_) (fun c_1 => ?_)
  · skip
    refine lv_iconst (v := (nI 0)) hx hb dX5_longAt_12 (by decide +kernel) ?_
    refine lv_istore_n (lv' := [(3, .int (nI 0)), (0, .ref m_), (1, .int (nI p_)), (2, .int (nI d_))]) hx hb dX5_longAt_13 rfl hl (by decide) rfl (fun ls hl => ?_)
    have L14 : ∀ (n : Nat) (i : Nat) (ls : Array Slot), (i ≤ min 40 (sz - p_)) → (i + zr_reach (zr_v B ah) (ah + p_ + i) (ah + p_ - d_ + i) (min 40 (sz - p_) - i) = zr_reach (zr_v B ah) (ah + p_) (ah + p_ - d_) (min 40 (sz - p_))) → (40 - i) < n → lv_has ls 4 [(0, .ref m_), (1, .int (nI p_)), (2, .int (nI d_)), (3, .int (nI i))] → W p l e rmX5_longAt s m args below meth c s.heap [] 0 0 Q (F0 m 14 ls []) := by
      intro n
      induction n with
      | zero => intro i ls g14_0 g14_1 hm hl; exact absurd hm (by omega)
      | succ n ih14 =>
        intro i ls g14_0 g14_1 hm hl
        refine lv_iload_n hx hb dX5_longAt_14 rfl (lv_at hl 3 rfl) ?_
        refine lv_bipush (v := (nI 40)) hx hb dX5_longAt_15 (by decide +kernel) ?_
        refine zk_icmp_ge (tgt := 63) hx hb (by omega) (by omega) dX5_longAt_17 (by decide) (fun c_2 => ?_) (fun c_2 => ?_)
        · skip
          have hfin : i = zr_reach (zr_v B ah) (ah + p_) (ah + p_ - d_) (min 40 (sz - p_)) := by rw [← g14_1, zr_reach_end (n := min 40 (sz - p_) - i) (by omega)]; rfl
          refine lv_iload_n hx hb dX5_longAt_63 rfl (lv_at hl 3 rfl) ?_
          refine lv_iconst (v := (nI 3)) hx hb dX5_longAt_64 (by decide +kernel) ?_
          refine zk_icmp_ge (tgt := 72) hx hb (by omega) (by omega) dX5_longAt_65 (by decide) (fun c_3 => ?_) (fun c_3 => ?_)
          · skip
            refine lv_iload_n hx hb dX5_longAt_72 rfl (lv_at hl 3 rfl) ?_
            exact hret _ ls _ dX5_longAt_73 (by rw [zr_lg, if_neg (by omega), if_neg (by omega), ← hfin])
          · skip
            refine lv_iconst (v := (nI 0)) hx hb dX5_longAt_68 (by decide +kernel) ?_
            refine lv_goto (tgt := 73) hx hb dX5_longAt_69 (by decide) ?_
            exact hret _ ls _ dX5_longAt_73 (by rw [zr_lg, if_neg (by omega), if_pos (by omega)])
        · skip
          refine lv_iload_n hx hb dX5_longAt_20 rfl (lv_at hl 1 rfl) ?_
          refine lv_iload_n hx hb dX5_longAt_21 rfl (lv_at hl 3 rfl) ?_
          refine zk_add (v := p_ + i) hx hb (rfl) dX5_longAt_22 ?_
          refine lv_aload_n hx hb dX5_longAt_23 rfl (lv_at hl 0 rfl) ?_
          refine va_get (D := D) (ci := 5) (v := .int (nI sz)) (C := RX5) (T := TX5) (N := 16) hx hb hts ziX5_longAt_5 hown hK hP 0 rfl rfl 4 (by decide) f45 (fun _ h9 => h9) rfl dX5_longAt_24 ?_
          refine zk_icmp_ge (tgt := 63) hx hb (by omega) (by omega) dX5_longAt_27 (by decide) (fun c_4 => ?_) (fun c_4 => ?_)
          · skip
            have hfin : i = zr_reach (zr_v B ah) (ah + p_) (ah + p_ - d_) (min 40 (sz - p_)) := by rw [← g14_1, zr_reach_end (n := min 40 (sz - p_) - i) (by omega)]; rfl
            refine lv_iload_n hx hb dX5_longAt_63 rfl (lv_at hl 3 rfl) ?_
            refine lv_iconst (v := (nI 3)) hx hb dX5_longAt_64 (by decide +kernel) ?_
            refine zk_icmp_ge (tgt := 72) hx hb (by omega) (by omega) dX5_longAt_65 (by decide) (fun c_5 => ?_) (fun c_5 => ?_)
            · skip
              refine lv_iload_n hx hb dX5_longAt_72 rfl (lv_at hl 3 rfl) ?_
              exact hret _ ls _ dX5_longAt_73 (by rw [zr_lg, if_neg (by omega), if_neg (by omega), ← hfin])
            · skip
              refine lv_iconst (v := (nI 0)) hx hb dX5_longAt_68 (by decide +kernel) ?_
              refine lv_goto (tgt := 73) hx hb dX5_longAt_69 (by decide) ?_
              exact hret _ ls _ dX5_longAt_73 (by rw [zr_lg, if_neg (by omega), if_pos (by omega)])
          · skip
            refine lv_aload_n hx hb dX5_longAt_30 rfl (lv_at hl 0 rfl) ?_
            refine va_get (D := D) (ci := 5) (v := .ref mb) (C := RX5) (T := TX5) (N := 16) hx hb hts ziX5_longAt_5 hown hK hP 0 rfl rfl 3 (by decide) f7 (fun _ h9 => h9) rfl dX5_longAt_31 ?_
            refine lv_bipush (v := (nI 60)) hx hb dX5_longAt_34 (by decide +kernel) ?_
            refine lv_iload_n hx hb dX5_longAt_36 rfl (lv_at hl 1 rfl) ?_
            refine zk_add (v := 60 + p_) hx hb (rfl) dX5_longAt_37 ?_
            refine lv_iload_n hx hb dX5_longAt_38 rfl (lv_at hl 3 rfl) ?_
            refine zk_add (v := 60 + p_ + i) hx hb (rfl) dX5_longAt_39 ?_
            refine zk_ild (v := B (60 + p_ + i)) hx hb hK hP 1 0 (i := 60 + p_ + i) (g := B) rfl rfl (by omega) (by decide) rfl dX5_longAt_40 ?_
            refine lv_aload_n hx hb dX5_longAt_41 rfl (lv_at hl 0 rfl) ?_
            refine va_get (D := D) (ci := 5) (v := .ref mb) (C := RX5) (T := TX5) (N := 16) hx hb hts ziX5_longAt_5 hown hK hP 0 rfl rfl 3 (by decide) f7 (fun _ h9 => h9) rfl dX5_longAt_42 ?_
            refine lv_bipush (v := (nI 60)) hx hb dX5_longAt_45 (by decide +kernel) ?_
            refine lv_iload_n hx hb dX5_longAt_47 rfl (lv_at hl 1 rfl) ?_
            refine zk_add (v := 60 + p_) hx hb (rfl) dX5_longAt_48 ?_
            refine lv_iload_n hx hb dX5_longAt_49 rfl (lv_at hl 3 rfl) ?_
            refine zk_add (v := 60 + p_ + i) hx hb (rfl) dX5_longAt_50 ?_
            refine lv_iload_n hx hb dX5_longAt_51 rfl (lv_at hl 2 rfl) ?_
            refine zk_sub (v := 60 + p_ + i - d_) hx hb (by omega) dX5_longAt_52 ?_
            refine zk_ild (v := B (60 + p_ + i - d_)) hx hb hK hP 1 0 (i := 60 + p_ + i - d_) (g := B) rfl rfl (by omega) (by decide) rfl dX5_longAt_53 ?_
            have e1 : (zr_v B ah) (ah + p_ + i) = B (60 + p_ + i) := zr_vB (by omega)
            have e2 : (zr_v B ah) (ah + p_ - d_ + i) = B (60 + p_ + i - d_) := zr_vB (by omega)
            have b1 := h5 (60 + p_ + i)
            have b2 := h5 (60 + p_ + i - d_)
            refine zk_icmp_ne (tgt := 63) hx hb (by omega) (by omega) dX5_longAt_54 (by decide) (fun c_6 => ?_) (fun c_6 => ?_)
            · skip
              have hfin : i = zr_reach (zr_v B ah) (ah + p_) (ah + p_ - d_) (min 40 (sz - p_)) := by rw [← g14_1, zr_reach_ne (by rw [e1, e2]; exact c_6)]; rfl
              refine lv_iload_n hx hb dX5_longAt_63 rfl (lv_at hl 3 rfl) ?_
              refine lv_iconst (v := (nI 3)) hx hb dX5_longAt_64 (by decide +kernel) ?_
              refine zk_icmp_ge (tgt := 72) hx hb (by omega) (by omega) dX5_longAt_65 (by decide) (fun c_7 => ?_) (fun c_7 => ?_)
              · skip
                refine lv_iload_n hx hb dX5_longAt_72 rfl (lv_at hl 3 rfl) ?_
                exact hret _ ls _ dX5_longAt_73 (by rw [zr_lg, if_neg (by omega), if_neg (by omega), ← hfin])
              · skip
                refine lv_iconst (v := (nI 0)) hx hb dX5_longAt_68 (by decide +kernel) ?_
                refine lv_goto (tgt := 73) hx hb dX5_longAt_69 (by decide) ?_
                exact hret _ ls _ dX5_longAt_73 (by rw [zr_lg, if_neg (by omega), if_pos (by omega)])
            · skip
              refine lv_iinc (v := (nI (i + 1))) (lv' := [(3, .int (nI (i + 1))), (0, .ref m_), (1, .int (nI p_)), (2, .int (nI d_))]) hx hb dX5_longAt_57 hl (k := 3) rfl (by rw [show Int32.ofInt 1 = (1 : Int32) from rfl, nI_1]) (by decide) rfl (fun ls hl => ?_)
              refine lv_goto (tgt := 14) hx hb dX5_longAt_60 (by decide) ?_
              exact ih14 (i + 1) ls (by omega) (by show i + 1 + zr_reach (zr_v B ah) (ah + p_ + i + 1) (ah + p_ - d_ + i + 1) (min 40 (sz - p_) - (i + 1)) = _; rw [← g14_1, zr_reach_eq (n := min 40 (sz - p_) - i) (m := min 40 (sz - p_) - (i + 1)) (by rw [e1, e2]; exact c_6) (by omega)]; omega) (by omega) (lv_sub hl [1, 2, 3, 0] rfl)
    exact L14 (40 - 0 + 1) 0 ls (by omega) (Nat.zero_add _) (by omega) (lv_sub hl [1, 2, 3, 0] rfl)
  · skip
    refine lv_iconst (v := (nI 0)) hx hb dX5_longAt_10 (by decide +kernel) ?_
    exact hret _ ls _ dX5_longAt_11 (by rw [zr_lg, if_pos (by omega)])
def rmX5_find : Room := { frames := 1, cells := 0, slots := 0, locals := 23 }
set_option maxRecDepth 20000 in
theorem ziX5_find_5 : ∀ w ∈ wsX50, w ∈ wsX5_find := by decide +kernel
set_option maxHeartbeats 4000000 in
set_option maxRecDepth 100000 in
/-- find -/
theorem c_find (l : Launch) (D : va_G) (cI cZ cR : ClassId) (m_ : Nat) (tw : Nat) (sp : Nat) (dp : Nat) (mb : Nat) (sz : Nat) (ah : Nat) (mi : Nat) (mp : Nat) (m1 : Nat) (m2 : Nat) (m3 : Nat) (mc : Nat) (ml : Nat) (bl : Nat) (bd : Nat) (rp : Nat) (B : Nat → Nat) (p_ : Nat) (mo : Nat) (h0 : ah ≤ 60) (h1 : sz ≤ 300) (h2 : p_ ≤ sz) (h3 : sp ≤ 300) (h4 : mo ≤ 301) (h5 : ∀ j, B j < 256) : zk_Wv l yX5_find wsX5_find rmX5_find D (zk_t cI cZ cR) [.ref m_, .int (nI p_), .int (nI mo)] [(m_, .inr (5, [.int (nI tw), .int (nI sp), .int (nI dp), .ref mb, .int (nI sz), .int (nI ah), .ref mi, .ref mp, .ref m1, .ref m2, .ref m3, .ref mc, .ref ml, .int (nI bl), .int (nI bd), .int (nI rp)])), (mb, zk_a cI 360 B)] (fun u : Nat × Nat => match u with | (bl2, bd2) => zr_ch (zr_lg (zr_v B ah) ah sz p_) mo sp 1 0 0 0 = (bl2, bd2)) (fun u => match u with | (bl2, bd2) => [(m_, .inr (5, [.int (nI tw), .int (nI sp), .int (nI dp), .ref mb, .int (nI sz), .int (nI ah), .ref mi, .ref mp, .ref m1, .ref m2, .ref m3, .ref mc, .ref ml, .int (nI bl2), .int (nI bd2), .int (nI rp)])), (mb, zk_a cI 360 B)]) := by
  refine zk_enterV RX5 cX5_find 6 (by decide) rfl rfl (Nat.le_of_ble_eq_true rfl) ?_
  intro p e s m args below meth c ls A Q hx hb hml hown hts hP hK hD hN hl hA hS hret
  have hl : lv_has ls 6 [(0, .ref m_), (1, .int (nI p_)), (2, .int (nI mo))] := hl
  have f35 := hts (.fieldLink RX5 35 "MatchFindersModel" "span" "I") (by decide +kernel)
  have f63 := hts (.fieldLink RX5 63 "MatchFindersModel" "bestLength" "I") (by decide +kernel)
  have f66 := hts (.fieldLink RX5 66 "MatchFindersModel" "bestDistance" "I") (by decide +kernel)
  refine lv_aload_n hx hb dX5_find_0 rfl (lv_at hl 0 rfl) ?_
  refine lv_iconst (v := (nI 0)) hx hb dX5_find_1 (by decide +kernel) ?_
  refine va_put (D := D) (ci := 5) (v := .int (nI 0)) (ty := .int) (C := RX5) (T := TX5) (N := 16) hx hb hts ziX5_find_5 tyX5 tyX5_ok nmX5 hown hK hP (zk_D hD rfl) hS 0 rfl rfl 13 (by decide) f63 (fun _ h9 => h9) rfl (by decide +kernel) rfl rfl (Nat.le_of_ble_eq_true rfl) dX5_find_2 (fun H locs hP _ hS => ?_)
  have hP : va_P D vwCl [(m_, .inr (5, [.int (nI tw), .int (nI sp), .int (nI dp), .ref mb, .int (nI sz), .int (nI ah), .ref mi, .ref mp, .ref m1, .ref m2, .ref m3, .ref mc, .ref ml, .int (nI 0), .int (nI bd), .int (nI rp)])), (mb, zk_a cI 360 B)] H := hP
  refine lv_aload_n hx hb dX5_find_5 rfl (lv_at hl 0 rfl) ?_
  refine lv_iconst (v := (nI 0)) hx hb dX5_find_6 (by decide +kernel) ?_
  refine va_put (D := D) (ci := 5) (v := .int (nI 0)) (ty := .int) (C := RX5) (T := TX5) (N := 16) hx hb hts ziX5_find_5 tyX5 tyX5_ok nmX5 hown hK hP (zk_D hD rfl) hS 0 rfl rfl 14 (by decide) f66 (fun _ h9 => h9) rfl (by decide +kernel) rfl rfl (Nat.le_of_ble_eq_true rfl) dX5_find_7 (fun H locs hP _ hS => ?_)
  have hP : va_P D vwCl [(m_, .inr (5, [.int (nI tw), .int (nI sp), .int (nI dp), .ref mb, .int (nI sz), .int (nI ah), .ref mi, .ref mp, .ref m1, .ref m2, .ref m3, .ref mc, .ref ml, .int (nI 0), .int (nI 0), .int (nI rp)])), (mb, zk_a cI 360 B)] H := hP
  refine lv_iconst (v := (nI 0)) hx hb dX5_find_10 (by decide +kernel) ?_
  refine lv_istore_n (lv' := [(3, .int (nI 0)), (0, .ref m_), (1, .int (nI p_)), (2, .int (nI mo))]) hx hb dX5_find_11 rfl hl (by decide) rfl (fun ls hl => ?_)
  refine lv_iconst (v := (nI 1)) hx hb dX5_find_12 (by decide +kernel) ?_
  refine lv_istore (lv' := [(4, .int (nI 1)), (3, .int (nI 0)), (0, .ref m_), (1, .int (nI p_)), (2, .int (nI mo))]) hx hb dX5_find_13 hl (by decide) rfl (fun ls hl => ?_)
  have L15 : ∀ (n : Nat) (d : Nat) (se : Nat) (le1 : Nat) (di1 : Nat) (ls : Array Slot) (H : Heap) (locs : List Loc), (1 ≤ d) → (d ≤ sp + 1) → (se ≤ mo) → (le1 ≤ 40) → (zr_ch (zr_lg (zr_v B ah) ah sz p_) mo (sp + 1 - d) d se le1 di1 = zr_ch (zr_lg (zr_v B ah) ah sz p_) mo sp 1 0 0 0) → (sp + 1 - d) < n → va_P D vwCl [(m_, .inr (5, [.int (nI tw), .int (nI sp), .int (nI dp), .ref mb, .int (nI sz), .int (nI ah), .ref mi, .ref mp, .ref m1, .ref m2, .ref m3, .ref mc, .ref ml, .int (nI le1), .int (nI di1), .int (nI rp)])), (mb, zk_a cI 360 B)] H → va_S A s.heap H locs → lv_has ls 6 [(0, .ref m_), (1, .int (nI p_)), (2, .int (nI mo)), (3, .int (nI se)), (4, .int (nI d))] → W p l e rmX5_find s m args below meth c H locs 0 0 Q (F0 m 15 ls []) := by
    intro n
    induction n with
    | zero => intro d se le1 di1 ls H locs g15_0 g15_1 g15_2 g15_3 g15_4 hm hP hS hl; exact absurd hm (by omega)
    | succ n ih15 =>
      intro d se le1 di1 ls H locs g15_0 g15_1 g15_2 g15_3 g15_4 hm hP hS hl
      refine lv_iload hx hb dX5_find_15 (lv_at hl 4 rfl) ?_
      refine lv_aload_n hx hb dX5_find_17 rfl (lv_at hl 0 rfl) ?_
      refine va_get (D := D) (ci := 5) (v := .int (nI sp)) (C := RX5) (T := TX5) (N := 16) hx hb hts ziX5_find_5 hown hK hP 0 rfl rfl 1 (by decide) f35 (fun _ h9 => h9) rfl dX5_find_18 ?_
      refine zk_icmp_gt (tgt := 78) hx hb (by omega) (by omega) dX5_find_21 (by decide) (fun c_1 => ?_) (fun c_1 => ?_)
      · skip
        exact hret _ ls _ _ (le1, di1) dX5_find_78 (by rw [← g15_4, zr_ch_0 (n := sp + 1 - d) (by omega)]) hP hS
      · skip
        refine lv_iload_n hx hb dX5_find_24 rfl (lv_at hl 3 rfl) ?_
        refine lv_iload_n hx hb dX5_find_25 rfl (lv_at hl 2 rfl) ?_
        refine zk_icmp_ge (tgt := 78) hx hb (by omega) (by omega) dX5_find_26 (by decide) (fun c_2 => ?_) (fun c_2 => ?_)
        · skip
          exact hret _ ls _ _ (le1, di1) dX5_find_78 (by rw [← g15_4, zr_ch_big (by omega)]) hP hS
        · skip
          refine lv_aload_n hx hb dX5_find_29 rfl (lv_at hl 0 rfl) ?_
          refine lv_iload_n hx hb dX5_find_30 rfl (lv_at hl 1 rfl) ?_
          refine lv_iload hx hb dX5_find_31 (lv_at hl 4 rfl) ?_
          refine zk_rdV (As := [.int (nI p_), .int (nI d)]) (rest := []) ⟨hx, hb, hml, hown, hts⟩ hN (c_longAt l D cI cZ cR m_ tw sp dp mb sz ah mi mp m1 m2 m3 mc ml le1 di1 rp B p_ d (by omega) (by omega) (by omega) (by omega) (by omega) h5) (cwV 2 hts gX5_find_X5_longAt rfl rfl rfl (by decide +kernel) ⟨Nat.le_of_ble_eq_true rfl, Nat.le_of_ble_eq_true rfl⟩) hK hP (zk_D hD rfl) [0, 1] rfl (by decide) rfl rfl rfl rfl hl.1 rfl (Nat.le_of_ble_eq_true rfl) dX5_find_33 ⟨Nat.zero_le _, Nat.zero_le _⟩ ?_
          refine zk_nm (fun rr h_rr => ?_)
          have hrl := zr_lg_le (zr_v B ah) ah sz p_ d
          have hr3 := zr_lg_3 (zr_v B ah) ah sz p_ d
          refine lv_istore (lv' := [(5, .int (nI rr)), (0, .ref m_), (1, .int (nI p_)), (2, .int (nI mo)), (3, .int (nI se)), (4, .int (nI d))]) hx hb dX5_find_36 hl (by decide) rfl (fun ls hl => ?_)
          refine lv_iload_n hx hb dX5_find_38 rfl (lv_at hl 4 rfl) ?_
          refine lv_iload hx hb dX5_find_39 (lv_at hl 0 rfl) ?_
          refine zk_if_le (tgt := 48) hx hb (by omega) dX5_find_41 (by decide) (fun c_3 => ?_) (fun c_3 => ?_)
          · skip
            refine lv_iconst (v := (nI 0)) hx hb dX5_find_48 (by decide +kernel) ?_
            refine zk_add (v := se) hx hb (by omega) dX5_find_49 ?_
            refine lv_istore_n (lv' := [(3, .int (nI se)), (5, .int (nI rr)), (0, .ref m_), (1, .int (nI p_)), (2, .int (nI mo)), (4, .int (nI d))]) hx hb dX5_find_50 rfl hl (by decide) rfl (fun ls hl => ?_)
            refine lv_iload hx hb dX5_find_51 (lv_at hl 1 rfl) ?_
            refine lv_aload_n hx hb dX5_find_53 rfl (lv_at hl 2 rfl) ?_
            refine va_get (D := D) (ci := 5) (v := .int (nI le1)) (C := RX5) (T := TX5) (N := 16) hx hb hts ziX5_find_5 hown hK hP 0 rfl rfl 13 (by decide) f63 (fun _ h9 => h9) rfl dX5_find_54 ?_
            refine zk_icmp_le (tgt := 72) hx hb (by omega) (by omega) dX5_find_57 (by decide) (fun c_4 => ?_) (fun c_4 => ?_)
            · skip
              refine lv_iinc (v := (nI (d + 1))) (lv' := [(4, .int (nI (d + 1))), (3, .int (nI se)), (5, .int (nI rr)), (0, .ref m_), (1, .int (nI p_)), (2, .int (nI mo))]) hx hb dX5_find_72 hl (k := 5) rfl (by rw [show Int32.ofInt 1 = (1 : Int32) from rfl, nI_1]) (by decide) rfl (fun ls hl => ?_)
              refine lv_goto (tgt := 15) hx hb dX5_find_75 (by decide) ?_
              exact ih15 (d + 1) se le1 di1 ls _ _ (by omega) (by omega) (by omega) (by omega) (by rw [← g15_4, zr_ch_no (Rr := zr_lg (zr_v B ah) ah sz p_) (d := d) (n := sp + 1 - d) (k := sp + 1 - (d + 1)) (r := rr) (by omega) h_rr (by omega) (by omega)]) (by omega) hP hS (lv_sub hl [3, 4, 5, 1, 0] rfl)
            · skip
              omega
          · skip
            refine lv_iconst (v := (nI 1)) hx hb dX5_find_44 (by decide +kernel) ?_
            refine lv_goto (tgt := 49) hx hb dX5_find_45 (by decide) ?_
            refine zk_add (v := se + 1) hx hb (rfl) dX5_find_49 ?_
            refine lv_istore_n (lv' := [(3, .int (nI (se + 1))), (5, .int (nI rr)), (0, .ref m_), (1, .int (nI p_)), (2, .int (nI mo)), (4, .int (nI d))]) hx hb dX5_find_50 rfl hl (by decide) rfl (fun ls hl => ?_)
            refine lv_iload hx hb dX5_find_51 (lv_at hl 1 rfl) ?_
            refine lv_aload_n hx hb dX5_find_53 rfl (lv_at hl 2 rfl) ?_
            refine va_get (D := D) (ci := 5) (v := .int (nI le1)) (C := RX5) (T := TX5) (N := 16) hx hb hts ziX5_find_5 hown hK hP 0 rfl rfl 13 (by decide) f63 (fun _ h9 => h9) rfl dX5_find_54 ?_
            refine zk_icmp_le (tgt := 72) hx hb (by omega) (by omega) dX5_find_57 (by decide) (fun c_5 => ?_) (fun c_5 => ?_)
            · skip
              refine lv_iinc (v := (nI (d + 1))) (lv' := [(4, .int (nI (d + 1))), (3, .int (nI (se + 1))), (5, .int (nI rr)), (0, .ref m_), (1, .int (nI p_)), (2, .int (nI mo))]) hx hb dX5_find_72 hl (k := 5) rfl (by rw [show Int32.ofInt 1 = (1 : Int32) from rfl, nI_1]) (by decide) rfl (fun ls hl => ?_)
              refine lv_goto (tgt := 15) hx hb dX5_find_75 (by decide) ?_
              exact ih15 (d + 1) (se + 1) le1 di1 ls _ _ (by omega) (by omega) (by omega) (by omega) (by rw [← g15_4, zr_ch_in (Rr := zr_lg (zr_v B ah) ah sz p_) (d := d) (n := sp + 1 - d) (k := sp + 1 - (d + 1)) (r := rr) (by omega) h_rr (by omega) (by omega) (by omega)]) (by omega) hP hS (lv_sub hl [3, 4, 5, 1, 0] rfl)
            · skip
              refine lv_aload_n hx hb dX5_find_60 rfl (lv_at hl 2 rfl) ?_
              refine lv_iload hx hb dX5_find_61 (lv_at hl 1 rfl) ?_
              refine va_put (D := D) (ci := 5) (v := .int (nI rr)) (ty := .int) (C := RX5) (T := TX5) (N := 16) hx hb hts ziX5_find_5 tyX5 tyX5_ok nmX5 hown hK hP (zk_D hD rfl) hS 0 rfl rfl 13 (by decide) f63 (fun _ h9 => h9) rfl (by decide +kernel) rfl rfl (Nat.le_of_ble_eq_true rfl) dX5_find_63 (fun H locs hP _ hS => ?_)
              have hP : va_P D vwCl [(m_, .inr (5, [.int (nI tw), .int (nI sp), .int (nI dp), .ref mb, .int (nI sz), .int (nI ah), .ref mi, .ref mp, .ref m1, .ref m2, .ref m3, .ref mc, .ref ml, .int (nI rr), .int (nI di1), .int (nI rp)])), (mb, zk_a cI 360 B)] H := hP
              refine lv_aload_n hx hb dX5_find_66 rfl (lv_at hl 2 rfl) ?_
              refine lv_iload hx hb dX5_find_67 (lv_at hl 5 rfl) ?_
              refine va_put (D := D) (ci := 5) (v := .int (nI d)) (ty := .int) (C := RX5) (T := TX5) (N := 16) hx hb hts ziX5_find_5 tyX5 tyX5_ok nmX5 hown hK hP (zk_D hD rfl) hS 0 rfl rfl 14 (by decide) f66 (fun _ h9 => h9) rfl (by decide +kernel) rfl rfl (Nat.le_of_ble_eq_true rfl) dX5_find_69 (fun H locs hP _ hS => ?_)
              have hP : va_P D vwCl [(m_, .inr (5, [.int (nI tw), .int (nI sp), .int (nI dp), .ref mb, .int (nI sz), .int (nI ah), .ref mi, .ref mp, .ref m1, .ref m2, .ref m3, .ref mc, .ref ml, .int (nI rr), .int (nI d), .int (nI rp)])), (mb, zk_a cI 360 B)] H := hP
              refine lv_iinc (v := (nI (d + 1))) (lv' := [(4, .int (nI (d + 1))), (3, .int (nI (se + 1))), (5, .int (nI rr)), (0, .ref m_), (1, .int (nI p_)), (2, .int (nI mo))]) hx hb dX5_find_72 hl (k := 5) rfl (by rw [show Int32.ofInt 1 = (1 : Int32) from rfl, nI_1]) (by decide) rfl (fun ls hl => ?_)
              refine lv_goto (tgt := 15) hx hb dX5_find_75 (by decide) ?_
              exact ih15 (d + 1) (se + 1) rr d ls _ _ (by omega) (by omega) (by omega) (by omega) (by rw [← g15_4, zr_ch_up (Rr := zr_lg (zr_v B ah) ah sz p_) (d := d) (n := sp + 1 - d) (k := sp + 1 - (d + 1)) (r := rr) (by omega) h_rr (by omega) (by omega) (by omega)]) (by omega) hP hS (lv_sub hl [3, 4, 5, 1, 0] rfl)
  exact L15 (sp + 1 - 1 + 1) 1 0 0 0 ls _ _ (by omega) (by omega) (by omega) (by omega) rfl (by omega) hP hS (lv_sub hl [2, 3, 4, 1, 0] rfl)
def rmX5_told : Room := { frames := 2, cells := 0, slots := 0, locals := 48 }
set_option maxRecDepth 20000 in
theorem ziX5_told_5 : ∀ w ∈ wsX50, w ∈ wsX5_told := by decide +kernel
set_option maxHeartbeats 4000000 in
set_option maxRecDepth 100000 in
/-- told -/
theorem c_told (l : Launch) (D : va_G) (cI cZ cR : ClassId) (m_ : Nat) (tw : Nat) (sp : Nat) (dp : Nat) (mb : Nat) (sz : Nat) (ah : Nat) (mi : Nat) (mp : Nat) (m1 : Nat) (m2 : Nat) (m3 : Nat) (mc : Nat) (ml : Nat) (bl : Nat) (bd : Nat) (rp : Nat) (B : Nat → Nat) (p_ : Int32) (w_ : Int32) (mo : Nat) (h0 : ah ≤ 60) (h1 : sz ≤ 300) (h2 : sp ≤ 300) (h3 : mo ≤ 301) (h4 : ∀ j, B j < 256) : zk_Wi l yX5_told wsX5_told rmX5_told D (zk_t cI cZ cR) [.ref m_, .int p_, .int w_, .int (nI mo)] [(m_, .inr (5, [.int (nI tw), .int (nI sp), .int (nI dp), .ref mb, .int (nI sz), .int (nI ah), .ref mi, .ref mp, .ref m1, .ref m2, .ref m3, .ref mc, .ref ml, .int (nI bl), .int (nI bd), .int (nI rp)])), (mb, zk_a cI 360 B)] (fun (r : Int32) (u : Nat × Nat) => match u with | (bl2, bd2) => r = zA_pick p_ w_ sz (fun q => zr_ch (zr_lg (zr_v B ah) ah sz q) mo sp 1 0 0 0)) (fun u => match u with | (bl2, bd2) => [(m_, .inr (5, [.int (nI tw), .int (nI sp), .int (nI dp), .ref mb, .int (nI sz), .int (nI ah), .ref mi, .ref mp, .ref m1, .ref m2, .ref m3, .ref mc, .ref ml, .int (nI bl2), .int (nI bd2), .int (nI rp)])), (mb, zk_a cI 360 B)]) := by
  refine zk_enterI RX5 cX5_told 4 (by decide) rfl rfl (Nat.le_of_ble_eq_true rfl) ?_
  intro p e s m args below meth c ls A Q hx hb hml hown hts hP hK hD hN hl hA hS hret
  have hl : lv_has ls 4 [(0, .ref m_), (1, .int p_), (2, .int w_), (3, .int (nI mo))] := hl
  have f45 := hts (.fieldLink RX5 45 "MatchFindersModel" "size" "I") (by decide +kernel)
  have f63 := hts (.fieldLink RX5 63 "MatchFindersModel" "bestLength" "I") (by decide +kernel)
  have f66 := hts (.fieldLink RX5 66 "MatchFindersModel" "bestDistance" "I") (by decide +kernel)
  refine lv_iload_n hx hb dX5_told_0 rfl (lv_at hl 1 rfl) ?_
  refine lv_iconst (v := (nI 0)) hx hb dX5_told_1 (by decide +kernel) ?_
  refine lv_aload_n hx hb dX5_told_2 rfl (lv_at hl 0 rfl) ?_
  refine va_get (D := D) (ci := 5) (v := .int (nI sz)) (C := RX5) (T := TX5) (N := 16) hx hb hts ziX5_told_5 hown hK hP 0 rfl rfl 4 (by decide) f45 (fun _ h9 => h9) rfl dX5_told_3 ?_
  refine lv_iconst (v := (nI 1)) hx hb dX5_told_6 (by decide +kernel) ?_
  refine lv_isub hx hb dX5_told_7 ?_
  refine zk_rdS (As := [.int p_, .int (nI 0), .int ((nI sz) - (nI 1))]) (rest := []) ⟨hx, hb, hml, hown, hts⟩ hN (c_in l D cI cZ cR p_ (nI 0) ((nI sz) - (nI 1))) (va_cwS 3 hts gX5_told_X5_in rfl rfl rfl (by decide +kernel) ⟨Nat.le_of_ble_eq_true rfl, Nat.le_of_ble_eq_true rfl⟩) hK hP (zk_D hD rfl) [] rfl (by decide) rfl hl.1 rfl (Nat.le_of_ble_eq_true rfl) dX5_told_8 ⟨Nat.zero_le _, Nat.zero_le _⟩ ?_
  refine lv_if_ne (tgt := 16) hx hb dX5_told_11 (by decide) (fun c_1 => ?_) (fun c_1 => ?_)
  · skip
    obtain ⟨pp, hpp, hpe⟩ := zk_inp h1 c_1
    subst hpe
    refine lv_iload_n hx hb dX5_told_16 rfl (lv_at hl 2 rfl) ?_
    refine lv_iconst (v := (nI 0)) hx hb dX5_told_17 (by decide +kernel) ?_
    refine lv_iconst (v := (nI 1)) hx hb dX5_told_18 (by decide +kernel) ?_
    refine zk_rdS (As := [.int w_, .int (nI 0), .int (nI 1)]) (rest := []) ⟨hx, hb, hml, hown, hts⟩ hN (c_in l D cI cZ cR w_ (nI 0) (nI 1)) (va_cwS 3 hts gX5_told_X5_in rfl rfl rfl (by decide +kernel) ⟨Nat.le_of_ble_eq_true rfl, Nat.le_of_ble_eq_true rfl⟩) hK hP (zk_D hD rfl) [] rfl (by decide) rfl hl.1 rfl (Nat.le_of_ble_eq_true rfl) dX5_told_19 ⟨Nat.zero_le _, Nat.zero_le _⟩ ?_
    refine lv_if_ne (tgt := 28) hx hb dX5_told_22 (by decide) (fun c_2 => ?_) (fun c_2 => ?_)
    · skip
      obtain ⟨v, hv1, hv, hve⟩ := zk_in2 (lo := 0) (hi := 1) (by decide) (by decide) c_2
      subst hve
      rcases (show v = 0 ∨ v = 1 by omega) with hv0 | hv0
      · subst hv0
        refine lv_aload_n hx hb dX5_told_28 rfl (lv_at hl 0 rfl) ?_
        refine lv_iload_n hx hb dX5_told_29 rfl (lv_at hl 1 rfl) ?_
        refine lv_iload_n hx hb dX5_told_30 rfl (lv_at hl 3 rfl) ?_
        refine zk_wrV (As := [.int (nI pp), .int (nI mo)]) (rest := []) ⟨hx, hb, hml, hown, hts⟩ hN (c_find l D cI cZ cR m_ tw sp dp mb sz ah mi mp m1 m2 m3 mc ml bl bd rp B pp mo (by omega) (by omega) (by omega) (by omega) (by omega) h4) (cwV 2 hts gX5_told_X5_find rfl rfl rfl (by decide +kernel) ⟨Nat.le_of_ble_eq_true rfl, Nat.le_of_ble_eq_true rfl⟩) hK hP (zk_D hD rfl) hS hA [0, 1] rfl (by decide) (fun _ => rfl) rfl rfl rfl rfl hl.1 rfl (Nat.le_of_ble_eq_true rfl) dX5_told_31 ⟨Nat.zero_le _, Nat.zero_le _⟩ (fun u H locs hu hP hS => ?_)
        obtain ⟨bl9, bd9⟩ := u
        have hu : zr_ch (zr_lg (zr_v B ah) ah sz pp) mo sp 1 0 0 0 = (bl9, bd9) := hu
        have hP : va_P D vwCl [(m_, .inr (5, [.int (nI tw), .int (nI sp), .int (nI dp), .ref mb, .int (nI sz), .int (nI ah), .ref mi, .ref mp, .ref m1, .ref m2, .ref m3, .ref mc, .ref ml, .int (nI bl9), .int (nI bd9), .int (nI rp)])), (mb, zk_a cI 360 B)] H := hP
        refine lv_iload_n hx hb dX5_told_34 rfl (lv_at hl 2 rfl) ?_
        refine zk_if_ne (tgt := 45) hx hb (by omega) dX5_told_35 (by decide) (fun c_3 => absurd c_3 (by omega)) (fun c_3 => ?_)
        refine lv_aload_n hx hb dX5_told_38 rfl (lv_at hl 0 rfl) ?_
        refine va_get (D := D) (ci := 5) (v := .int (nI bl9)) (C := RX5) (T := TX5) (N := 16) hx hb hts ziX5_told_5 hown hK hP 0 rfl rfl 13 (by decide) f63 (fun _ h9 => h9) rfl dX5_told_39 ?_
        refine lv_goto (tgt := 49) hx hb dX5_told_42 (by decide) ?_
        exact hret _ ls _ _ _ (bl9, bd9) dX5_told_49 (by rw [zA_pick, zk_val hpp (by omega), zk_win (by omega) (by decide), if_pos nI_0, nI_clamp (show pp < 2 ^ 31 by omega), hu]) hP hS
      · subst hv0
        refine lv_aload_n hx hb dX5_told_28 rfl (lv_at hl 0 rfl) ?_
        refine lv_iload_n hx hb dX5_told_29 rfl (lv_at hl 1 rfl) ?_
        refine lv_iload_n hx hb dX5_told_30 rfl (lv_at hl 3 rfl) ?_
        refine zk_wrV (As := [.int (nI pp), .int (nI mo)]) (rest := []) ⟨hx, hb, hml, hown, hts⟩ hN (c_find l D cI cZ cR m_ tw sp dp mb sz ah mi mp m1 m2 m3 mc ml bl bd rp B pp mo (by omega) (by omega) (by omega) (by omega) (by omega) h4) (cwV 2 hts gX5_told_X5_find rfl rfl rfl (by decide +kernel) ⟨Nat.le_of_ble_eq_true rfl, Nat.le_of_ble_eq_true rfl⟩) hK hP (zk_D hD rfl) hS hA [0, 1] rfl (by decide) (fun _ => rfl) rfl rfl rfl rfl hl.1 rfl (Nat.le_of_ble_eq_true rfl) dX5_told_31 ⟨Nat.zero_le _, Nat.zero_le _⟩ (fun u H locs hu hP hS => ?_)
        obtain ⟨bl9, bd9⟩ := u
        have hu : zr_ch (zr_lg (zr_v B ah) ah sz pp) mo sp 1 0 0 0 = (bl9, bd9) := hu
        have hP : va_P D vwCl [(m_, .inr (5, [.int (nI tw), .int (nI sp), .int (nI dp), .ref mb, .int (nI sz), .int (nI ah), .ref mi, .ref mp, .ref m1, .ref m2, .ref m3, .ref mc, .ref ml, .int (nI bl9), .int (nI bd9), .int (nI rp)])), (mb, zk_a cI 360 B)] H := hP
        refine lv_iload_n hx hb dX5_told_34 rfl (lv_at hl 2 rfl) ?_
        refine zk_if_ne (tgt := 45) hx hb (by omega) dX5_told_35 (by decide) (fun c_4 => ?_) (fun c_4 => absurd c_4 (by omega))
        refine lv_aload_n hx hb dX5_told_45 rfl (lv_at hl 0 rfl) ?_
        refine va_get (D := D) (ci := 5) (v := .int (nI bd9)) (C := RX5) (T := TX5) (N := 16) hx hb hts ziX5_told_5 hown hK hP 0 rfl rfl 14 (by decide) f66 (fun _ h9 => h9) rfl dX5_told_46 ?_
        exact hret _ ls _ _ _ (bl9, bd9) dX5_told_49 (by rw [zA_pick, zk_val hpp (by omega), zk_win (by omega) (by decide), if_neg (by decide +kernel), nI_clamp (show pp < 2 ^ 31 by omega), hu]) hP hS
    · skip
      have hwn := zk_in0 (lo := 0) (hi := 1) c_2
      refine lv_bipush (v := (-2)) hx hb dX5_told_25 (by decide +kernel) ?_
      exact hret _ ls _ _ _ (bl, bd) dX5_told_27 (by rw [zA_pick, zk_val hpp (by omega), zk_wout2 hwn]) hP hS
  · skip
    have hno := zk_inq h1 c_1
    refine lv_iconst (v := (-1)) hx hb dX5_told_14 (by decide +kernel) ?_
    exact hret _ ls _ _ _ (bl, bd) dX5_told_15 (by rw [zA_pick, zk_inv hno]) hP hS
def rmX5_longest : Room := { frames := 3, cells := 0, slots := 0, locals := 71 }
set_option maxRecDepth 20000 in
theorem ziX5_longest_5 : ∀ w ∈ wsX50, w ∈ wsX5_longest := by decide +kernel
set_option maxHeartbeats 4000000 in
set_option maxRecDepth 100000 in
/-- longest of the reference -/
theorem c_mlongest (l : Launch) (D : va_G) (cI cZ cR : ClassId) (m_ : Nat) (tw : Nat) (sp : Nat) (dp : Nat) (mb : Nat) (sz : Nat) (ah : Nat) (mi : Nat) (mp : Nat) (m1 : Nat) (m2 : Nat) (m3 : Nat) (mc : Nat) (ml : Nat) (bl : Nat) (bd : Nat) (rp : Nat) (B : Nat → Nat) (p_ : Int32) (w_ : Int32) (h0 : ah ≤ 60) (h1 : sz ≤ 300) (h2 : sp ≤ 300) (h3 : dp ≤ 64) (h4 : ∀ j, B j < 256) : zk_Wi l yX5_longest wsX5_longest rmX5_longest D (zk_t cI cZ cR) [.ref m_, .int p_, .int w_] [(m_, .inr (5, [.int (nI tw), .int (nI sp), .int (nI dp), .ref mb, .int (nI sz), .int (nI ah), .ref mi, .ref mp, .ref m1, .ref m2, .ref m3, .ref mc, .ref ml, .int (nI bl), .int (nI bd), .int (nI rp)])), (mb, zk_a cI 360 B)] (fun (r : Int32) (u : Nat × Nat) => match u with | (bl2, bd2) => r = zA_pick p_ w_ sz (fun q => zr_ch (zr_lg (zr_v B ah) ah sz q) 301 sp 1 0 0 0)) (fun u => match u with | (bl2, bd2) => [(m_, .inr (5, [.int (nI 0), .int (nI sp), .int (nI dp), .ref mb, .int (nI sz), .int (nI ah), .ref mi, .ref mp, .ref m1, .ref m2, .ref m3, .ref mc, .ref ml, .int (nI bl2), .int (nI bd2), .int (nI rp)])), (mb, zk_a cI 360 B)]) := by
  refine zk_enterI RX5 cX5_longest 3 (by decide) rfl rfl (Nat.le_of_ble_eq_true rfl) ?_
  intro p e s m args below meth c ls A Q hx hb hml hown hts hP hK hD hN hl hA hS hret
  have hl : lv_has ls 3 [(0, .ref m_), (1, .int p_), (2, .int w_)] := hl
  have f42 := hts (.fieldLink RX5 42 "MatchFindersModel" "thrown" "I") (by decide +kernel)
  refine lv_aload_n hx hb dX5_longest_0 rfl (lv_at hl 0 rfl) ?_
  refine lv_iconst (v := (nI 0)) hx hb dX5_longest_1 (by decide +kernel) ?_
  refine va_put (D := D) (ci := 5) (v := .int (nI 0)) (ty := .int) (C := RX5) (T := TX5) (N := 16) hx hb hts ziX5_longest_5 tyX5 tyX5_ok nmX5 hown hK hP (zk_D hD rfl) hS 0 rfl rfl 0 (by decide) f42 (fun _ h9 => h9) rfl (by decide +kernel) rfl rfl (Nat.le_of_ble_eq_true rfl) dX5_longest_2 (fun H locs hP _ hS => ?_)
  have hP : va_P D vwCl [(m_, .inr (5, [.int (nI 0), .int (nI sp), .int (nI dp), .ref mb, .int (nI sz), .int (nI ah), .ref mi, .ref mp, .ref m1, .ref m2, .ref m3, .ref mc, .ref ml, .int (nI bl), .int (nI bd), .int (nI rp)])), (mb, zk_a cI 360 B)] H := hP
  refine lv_aload_n hx hb dX5_longest_5 rfl (lv_at hl 0 rfl) ?_
  refine lv_iload_n hx hb dX5_longest_6 rfl (lv_at hl 1 rfl) ?_
  refine lv_iload_n hx hb dX5_longest_7 rfl (lv_at hl 2 rfl) ?_
  refine lv_sipush (v := (nI 301)) hx hb dX5_longest_8 (by decide +kernel) ?_
  refine zk_wrI (As := [.int p_, .int w_, .int (nI 301)]) (rest := []) ⟨hx, hb, hml, hown, hts⟩ hN (c_told l D cI cZ cR m_ 0 sp dp mb sz ah mi mp m1 m2 m3 mc ml bl bd rp B p_ w_ 301 (by omega) (by omega) (by omega) (by omega) h4) (cwV 3 hts gX5_longest_X5_told rfl rfl rfl (by decide +kernel) ⟨Nat.le_of_ble_eq_true rfl, Nat.le_of_ble_eq_true rfl⟩) hK hP (zk_D hD rfl) hS hA [0, 1] rfl (by decide) (fun _ => rfl) rfl rfl rfl rfl hl.1 rfl (Nat.le_of_ble_eq_true rfl) dX5_longest_11 ⟨Nat.zero_le _, Nat.zero_le _⟩ (fun r u H locs hu hP hS => ?_)
  obtain ⟨bl9, bd9⟩ := u
  have hu : r = zA_pick p_ w_ sz (fun q => zr_ch (zr_lg (zr_v B ah) ah sz q) 301 sp 1 0 0 0) := hu
  have hP : va_P D vwCl [(m_, .inr (5, [.int (nI 0), .int (nI sp), .int (nI dp), .ref mb, .int (nI sz), .int (nI ah), .ref mi, .ref mp, .ref m1, .ref m2, .ref m3, .ref mc, .ref ml, .int (nI bl9), .int (nI bd9), .int (nI rp)])), (mb, zk_a cI 360 B)] H := hP
  exact hret _ ls _ _ _ (bl9, bd9) dX5_longest_14 hu hP hS
def rmX5_chained : Room := { frames := 3, cells := 0, slots := 0, locals := 71 }
set_option maxRecDepth 20000 in
theorem ziX5_chained_5 : ∀ w ∈ wsX50, w ∈ wsX5_chained := by decide +kernel
set_option maxHeartbeats 4000000 in
set_option maxRecDepth 100000 in
/-- chained of the reference -/
theorem c_mchained (l : Launch) (D : va_G) (cI cZ cR : ClassId) (m_ : Nat) (tw : Nat) (sp : Nat) (dp : Nat) (mb : Nat) (sz : Nat) (ah : Nat) (mi : Nat) (mp : Nat) (m1 : Nat) (m2 : Nat) (m3 : Nat) (mc : Nat) (ml : Nat) (bl : Nat) (bd : Nat) (rp : Nat) (B : Nat → Nat) (p_ : Int32) (w_ : Int32) (h0 : ah ≤ 60) (h1 : sz ≤ 300) (h2 : sp ≤ 300) (h3 : dp ≤ 64) (h4 : ∀ j, B j < 256) : zk_Wi l yX5_chained wsX5_chained rmX5_chained D (zk_t cI cZ cR) [.ref m_, .int p_, .int w_] [(m_, .inr (5, [.int (nI tw), .int (nI sp), .int (nI dp), .ref mb, .int (nI sz), .int (nI ah), .ref mi, .ref mp, .ref m1, .ref m2, .ref m3, .ref mc, .ref ml, .int (nI bl), .int (nI bd), .int (nI rp)])), (mb, zk_a cI 360 B)] (fun (r : Int32) (u : Nat × Nat) => match u with | (bl2, bd2) => r = zA_pick p_ w_ sz (fun q => zr_ch (zr_lg (zr_v B ah) ah sz q) dp sp 1 0 0 0)) (fun u => match u with | (bl2, bd2) => [(m_, .inr (5, [.int (nI 0), .int (nI sp), .int (nI dp), .ref mb, .int (nI sz), .int (nI ah), .ref mi, .ref mp, .ref m1, .ref m2, .ref m3, .ref mc, .ref ml, .int (nI bl2), .int (nI bd2), .int (nI rp)])), (mb, zk_a cI 360 B)]) := by
  refine zk_enterI RX5 cX5_chained 3 (by decide) rfl rfl (Nat.le_of_ble_eq_true rfl) ?_
  intro p e s m args below meth c ls A Q hx hb hml hown hts hP hK hD hN hl hA hS hret
  have hl : lv_has ls 3 [(0, .ref m_), (1, .int p_), (2, .int w_)] := hl
  have f39 := hts (.fieldLink RX5 39 "MatchFindersModel" "depth" "I") (by decide +kernel)
  have f42 := hts (.fieldLink RX5 42 "MatchFindersModel" "thrown" "I") (by decide +kernel)
  refine lv_aload_n hx hb dX5_chained_0 rfl (lv_at hl 0 rfl) ?_
  refine lv_iconst (v := (nI 0)) hx hb dX5_chained_1 (by decide +kernel) ?_
  refine va_put (D := D) (ci := 5) (v := .int (nI 0)) (ty := .int) (C := RX5) (T := TX5) (N := 16) hx hb hts ziX5_chained_5 tyX5 tyX5_ok nmX5 hown hK hP (zk_D hD rfl) hS 0 rfl rfl 0 (by decide) f42 (fun _ h9 => h9) rfl (by decide +kernel) rfl rfl (Nat.le_of_ble_eq_true rfl) dX5_chained_2 (fun H locs hP _ hS => ?_)
  have hP : va_P D vwCl [(m_, .inr (5, [.int (nI 0), .int (nI sp), .int (nI dp), .ref mb, .int (nI sz), .int (nI ah), .ref mi, .ref mp, .ref m1, .ref m2, .ref m3, .ref mc, .ref ml, .int (nI bl), .int (nI bd), .int (nI rp)])), (mb, zk_a cI 360 B)] H := hP
  refine lv_aload_n hx hb dX5_chained_5 rfl (lv_at hl 0 rfl) ?_
  refine lv_iload_n hx hb dX5_chained_6 rfl (lv_at hl 1 rfl) ?_
  refine lv_iload_n hx hb dX5_chained_7 rfl (lv_at hl 2 rfl) ?_
  refine lv_aload_n hx hb dX5_chained_8 rfl (lv_at hl 0 rfl) ?_
  refine va_get (D := D) (ci := 5) (v := .int (nI dp)) (C := RX5) (T := TX5) (N := 16) hx hb hts ziX5_chained_5 hown hK hP 0 rfl rfl 2 (by decide) f39 (fun _ h9 => h9) rfl dX5_chained_9 ?_
  refine zk_wrI (As := [.int p_, .int w_, .int (nI dp)]) (rest := []) ⟨hx, hb, hml, hown, hts⟩ hN (c_told l D cI cZ cR m_ 0 sp dp mb sz ah mi mp m1 m2 m3 mc ml bl bd rp B p_ w_ dp (by omega) (by omega) (by omega) (by omega) h4) (cwV 3 hts gX5_chained_X5_told rfl rfl rfl (by decide +kernel) ⟨Nat.le_of_ble_eq_true rfl, Nat.le_of_ble_eq_true rfl⟩) hK hP (zk_D hD rfl) hS hA [0, 1] rfl (by decide) (fun _ => rfl) rfl rfl rfl rfl hl.1 rfl (Nat.le_of_ble_eq_true rfl) dX5_chained_12 ⟨Nat.zero_le _, Nat.zero_le _⟩ (fun r u H locs hu hP hS => ?_)
  obtain ⟨bl9, bd9⟩ := u
  have hu : r = zA_pick p_ w_ sz (fun q => zr_ch (zr_lg (zr_v B ah) ah sz q) dp sp 1 0 0 0) := hu
  have hP : va_P D vwCl [(m_, .inr (5, [.int (nI 0), .int (nI sp), .int (nI dp), .ref mb, .int (nI sz), .int (nI ah), .ref mi, .ref mp, .ref m1, .ref m2, .ref m3, .ref mc, .ref ml, .int (nI bl9), .int (nI bd9), .int (nI rp)])), (mb, zk_a cI 360 B)] H := hP
  exact hret _ ls _ _ _ (bl9, bd9) dX5_chained_15 hu hP hS
def rmX5_size : Room := { frames := 0, cells := 0, slots := 0, locals := 0 }
set_option maxRecDepth 20000 in
theorem ziX5_size_5 : ∀ w ∈ wsX50, w ∈ wsX5_size := by decide +kernel
set_option maxHeartbeats 4000000 in
set_option maxRecDepth 100000 in
/-- size of the reference -/
theorem c_msize (l : Launch) (D : va_G) (cI cZ cR : ClassId) (m_ : Nat) (tw : Nat) (sp : Nat) (dp : Nat) (mb : Nat) (sz : Nat) (ah : Nat) (mi : Nat) (mp : Nat) (m1 : Nat) (m2 : Nat) (m3 : Nat) (mc : Nat) (ml : Nat) (bl : Nat) (bd : Nat) (rp : Nat) (w_ : Int32) : zk_Wi l yX5_size wsX5_size rmX5_size D (zk_t cI cZ cR) [.ref m_, .int w_] [(m_, .inr (5, [.int (nI tw), .int (nI sp), .int (nI dp), .ref mb, .int (nI sz), .int (nI ah), .ref mi, .ref mp, .ref m1, .ref m2, .ref m3, .ref mc, .ref ml, .int (nI bl), .int (nI bd), .int (nI rp)]))] (fun (r : Int32) (_ : Unit) => r = (zA_size w_ ah sz)) (fun _ => [(m_, .inr (5, [.int (nI 0), .int (nI sp), .int (nI dp), .ref mb, .int (nI sz), .int (nI ah), .ref mi, .ref mp, .ref m1, .ref m2, .ref m3, .ref mc, .ref ml, .int (nI bl), .int (nI bd), .int (nI rp)]))]) := by
  refine zk_enterI RX5 cX5_size 2 (by decide) rfl rfl (Nat.le_of_ble_eq_true rfl) ?_
  intro p e s m args below meth c ls A Q hx hb hml hown hts hP hK hD hN hl hA hS hret
  have hl : lv_has ls 2 [(0, .ref m_), (1, .int w_)] := hl
  have f42 := hts (.fieldLink RX5 42 "MatchFindersModel" "thrown" "I") (by decide +kernel)
  have f45 := hts (.fieldLink RX5 45 "MatchFindersModel" "size" "I") (by decide +kernel)
  have f60 := hts (.fieldLink RX5 60 "MatchFindersModel" "ahead" "I") (by decide +kernel)
  refine lv_aload_n hx hb dX5_size_0 rfl (lv_at hl 0 rfl) ?_
  refine lv_iconst (v := (nI 0)) hx hb dX5_size_1 (by decide +kernel) ?_
  refine va_put (D := D) (ci := 5) (v := .int (nI 0)) (ty := .int) (C := RX5) (T := TX5) (N := 16) hx hb hts ziX5_size_5 tyX5 tyX5_ok nmX5 hown hK hP (zk_D hD rfl) hS 0 rfl rfl 0 (by decide) f42 (fun _ h9 => h9) rfl (by decide +kernel) rfl rfl (Nat.le_of_ble_eq_true rfl) dX5_size_2 (fun H locs hP _ hS => ?_)
  have hP : va_P D vwCl [(m_, .inr (5, [.int (nI 0), .int (nI sp), .int (nI dp), .ref mb, .int (nI sz), .int (nI ah), .ref mi, .ref mp, .ref m1, .ref m2, .ref m3, .ref mc, .ref ml, .int (nI bl), .int (nI bd), .int (nI rp)]))] H := hP
  refine lv_iload_n hx hb dX5_size_5 rfl (lv_at hl 1 rfl) ?_
  refine lv_if_ne (tgt := 16) hx hb dX5_size_6 (by decide) (fun c_1 => ?_) (fun c_1 => ?_)
  · skip
    refine lv_iload_n hx hb dX5_size_16 rfl (lv_at hl 1 rfl) ?_
    refine lv_iconst (v := (nI 1)) hx hb dX5_size_17 (by decide +kernel) ?_
    refine lv_icmp_ne (tgt := 28) hx hb dX5_size_18 (by decide) (fun c_2 => ?_) (fun c_2 => ?_)
    · skip
      refine lv_bipush (v := (-2)) hx hb dX5_size_28 (by decide +kernel) ?_
      exact hret _ ls _ _ _ () dX5_size_30 (by rw [zA_size, if_neg c_1, if_neg c_2]) hP hS
    · skip
      refine lv_aload_n hx hb dX5_size_21 rfl (lv_at hl 0 rfl) ?_
      refine va_get (D := D) (ci := 5) (v := .int (nI ah)) (C := RX5) (T := TX5) (N := 16) hx hb hts ziX5_size_5 hown hK hP 0 rfl rfl 5 (by decide) f60 (fun _ h9 => h9) rfl dX5_size_22 ?_
      refine lv_goto (tgt := 30) hx hb dX5_size_25 (by decide) ?_
      exact hret _ ls _ _ _ () dX5_size_30 (by rw [zA_size, if_neg c_1, if_pos c_2]) hP hS
  · skip
    refine lv_aload_n hx hb dX5_size_9 rfl (lv_at hl 0 rfl) ?_
    refine va_get (D := D) (ci := 5) (v := .int (nI sz)) (C := RX5) (T := TX5) (N := 16) hx hb hts ziX5_size_5 hown hK hP 0 rfl rfl 4 (by decide) f45 (fun _ h9 => h9) rfl dX5_size_10 ?_
    refine lv_goto (tgt := 30) hx hb dX5_size_13 (by decide) ?_
    exact hret _ ls _ _ _ () dX5_size_30 (by rw [zA_size, if_pos c_1]) hP hS
def rmX5_octet : Room := { frames := 1, cells := 0, slots := 0, locals := 22 }
set_option maxRecDepth 20000 in
theorem ziX5_octet_5 : ∀ w ∈ wsX50, w ∈ wsX5_octet := by decide +kernel
set_option maxHeartbeats 4000000 in
set_option maxRecDepth 100000 in
/-- octet of the reference -/
theorem c_moctet (l : Launch) (D : va_G) (cI cZ cR : ClassId) (m_ : Nat) (tw : Nat) (sp : Nat) (dp : Nat) (mb : Nat) (sz : Nat) (ah : Nat) (mi : Nat) (mp : Nat) (m1 : Nat) (m2 : Nat) (m3 : Nat) (mc : Nat) (ml : Nat) (bl : Nat) (bd : Nat) (rp : Nat) (B : Nat → Nat) (i_ : Int32) (h0 : ah ≤ 60) (h1 : sz ≤ 300) : zk_Wi l yX5_octet wsX5_octet rmX5_octet D (zk_t cI cZ cR) [.ref m_, .int i_] [(m_, .inr (5, [.int (nI tw), .int (nI sp), .int (nI dp), .ref mb, .int (nI sz), .int (nI ah), .ref mi, .ref mp, .ref m1, .ref m2, .ref m3, .ref mc, .ref ml, .int (nI bl), .int (nI bd), .int (nI rp)])), (mb, zk_a cI 360 B)] (fun (r : Int32) (_ : Unit) => r = (zr_at (zr_v B ah) ah sz i_)) (fun _ => [(m_, .inr (5, [.int (nI 0), .int (nI sp), .int (nI dp), .ref mb, .int (nI sz), .int (nI ah), .ref mi, .ref mp, .ref m1, .ref m2, .ref m3, .ref mc, .ref ml, .int (nI bl), .int (nI bd), .int (nI rp)])), (mb, zk_a cI 360 B)]) := by
  refine zk_enterI RX5 cX5_octet 2 (by decide) rfl rfl (Nat.le_of_ble_eq_true rfl) ?_
  intro p e s m args below meth c ls A Q hx hb hml hown hts hP hK hD hN hl hA hS hret
  have hl : lv_has ls 2 [(0, .ref m_), (1, .int i_)] := hl
  have f7 := hts (.fieldLink RX5 7 "MatchFindersModel" "bytes" "[I") (by decide +kernel)
  have f42 := hts (.fieldLink RX5 42 "MatchFindersModel" "thrown" "I") (by decide +kernel)
  have f45 := hts (.fieldLink RX5 45 "MatchFindersModel" "size" "I") (by decide +kernel)
  have f60 := hts (.fieldLink RX5 60 "MatchFindersModel" "ahead" "I") (by decide +kernel)
  refine lv_aload_n hx hb dX5_octet_0 rfl (lv_at hl 0 rfl) ?_
  refine lv_iconst (v := (nI 0)) hx hb dX5_octet_1 (by decide +kernel) ?_
  refine va_put (D := D) (ci := 5) (v := .int (nI 0)) (ty := .int) (C := RX5) (T := TX5) (N := 16) hx hb hts ziX5_octet_5 tyX5 tyX5_ok nmX5 hown hK hP (zk_D hD rfl) hS 0 rfl rfl 0 (by decide) f42 (fun _ h9 => h9) rfl (by decide +kernel) rfl rfl (Nat.le_of_ble_eq_true rfl) dX5_octet_2 (fun H locs hP _ hS => ?_)
  have hP : va_P D vwCl [(m_, .inr (5, [.int (nI 0), .int (nI sp), .int (nI dp), .ref mb, .int (nI sz), .int (nI ah), .ref mi, .ref mp, .ref m1, .ref m2, .ref m3, .ref mc, .ref ml, .int (nI bl), .int (nI bd), .int (nI rp)])), (mb, zk_a cI 360 B)] H := hP
  refine lv_iload_n hx hb dX5_octet_5 rfl (lv_at hl 1 rfl) ?_
  refine lv_aload_n hx hb dX5_octet_6 rfl (lv_at hl 0 rfl) ?_
  refine va_get (D := D) (ci := 5) (v := .int (nI ah)) (C := RX5) (T := TX5) (N := 16) hx hb hts ziX5_octet_5 hown hK hP 0 rfl rfl 5 (by decide) f60 (fun _ h9 => h9) rfl dX5_octet_7 ?_
  refine lv_ineg hx hb dX5_octet_10 ?_
  refine lv_aload_n hx hb dX5_octet_11 rfl (lv_at hl 0 rfl) ?_
  refine va_get (D := D) (ci := 5) (v := .int (nI sz)) (C := RX5) (T := TX5) (N := 16) hx hb hts ziX5_octet_5 hown hK hP 0 rfl rfl 4 (by decide) f45 (fun _ h9 => h9) rfl dX5_octet_12 ?_
  refine lv_iconst (v := (nI 1)) hx hb dX5_octet_15 (by decide +kernel) ?_
  refine lv_isub hx hb dX5_octet_16 ?_
  refine zk_rdS (As := [.int i_, .int (-(nI ah)), .int ((nI sz) - (nI 1))]) (rest := []) ⟨hx, hb, hml, hown, hts⟩ hN (c_in l D cI cZ cR i_ (-(nI ah)) ((nI sz) - (nI 1))) (va_cwS 3 hts gX5_octet_X5_in rfl rfl rfl (by decide +kernel) ⟨Nat.le_of_ble_eq_true rfl, Nat.le_of_ble_eq_true rfl⟩) hK hP (zk_D hD rfl) [] rfl (by decide) rfl hl.1 rfl (Nat.le_of_ble_eq_true rfl) dX5_octet_17 ⟨Nat.zero_le _, Nat.zero_le _⟩ ?_
  refine lv_if_eq (tgt := 35) hx hb dX5_octet_20 (by decide) (fun c_1 => ?_) (fun c_1 => ?_)
  · skip
    have hno := zk_oc_no (g := (zr_v B ah)) h1 c_1
    refine lv_iconst (v := (-1)) hx hb dX5_octet_35 (by decide +kernel) ?_
    exact hret _ ls _ _ _ () dX5_octet_36 (hno.symm) hP hS
  · skip
    obtain ⟨kk, hk1, hk2, hk3⟩ := zk_oc_in (B := B) h0 h1 c_1
    refine lv_aload_n hx hb dX5_octet_23 rfl (lv_at hl 0 rfl) ?_
    refine va_get (D := D) (ci := 5) (v := .ref mb) (C := RX5) (T := TX5) (N := 16) hx hb hts ziX5_octet_5 hown hK hP 0 rfl rfl 3 (by decide) f7 (fun _ h9 => h9) rfl dX5_octet_24 ?_
    refine lv_bipush (v := (nI 60)) hx hb dX5_octet_27 (by decide +kernel) ?_
    refine lv_iload_n hx hb dX5_octet_29 rfl (lv_at hl 1 rfl) ?_
    refine lv_iadd hx hb dX5_octet_30 ?_
    refine zk_top hk2 ?_
    refine zk_ild (v := B kk) hx hb hK hP 1 0 (i := kk) (g := B) rfl rfl (by omega) (by decide) rfl dX5_octet_31 ?_
    refine lv_goto (tgt := 36) hx hb dX5_octet_32 (by decide) ?_
    exact hret _ ls _ _ _ () dX5_octet_36 (hk3.symm) hP hS
