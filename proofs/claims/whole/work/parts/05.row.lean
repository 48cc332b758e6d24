/-! The bits of pieces. -/
/-- G of the document -/
def zr_G (x : Nat) : Nat := if h : 1 < x then zr_G (x / 2) + 2 else 1
termination_by x
decreasing_by omega
theorem zr_G_s {x : Nat} (h : 1 < x) : zr_G x = zr_G (x / 2) + 2 := by rw [zr_G, dif_pos h]
theorem zr_G_1 {x : Nat} (h : x ≤ 1) : zr_G x = 1 := by rw [zr_G, dif_neg (by omega)]
theorem zk_shr1 {n : Nat} (h : n < 2 ^ 31) : nI n >>> (nI 1 &&& 31) = nI (n / 2) := pk_shrN h _ 1 (by decide +kernel)
theorem zk_inc2 (n : Nat) : nI n + Int32.ofInt 2 = nI (n + 2) := by rw [show Int32.ofInt 2 = nI 2 from by decide +kernel, nI_add]
/-- the last three unlike distances -/
def zr_rem (d la se th : Nat) : Nat × Nat × Nat := if d = la then (la, se, th) else if d = se then (d, la, th) else (d, la, se)
/-- bits, bits with repeats, repeats, the three distances: a match more -/
def zr_cm (ln ds pb bw rc la se th : Nat) : Nat × Nat × Nat × Nat × Nat × Nat :=
  if ds = la ∨ ds = se ∨ ds = th then (pb + (2 + zr_G (ln - 2) + zr_G ds), bw + (4 + zr_G (ln - 2)), rc + 1, (zr_rem ds la se th).1, (zr_rem ds la se th).2.1, (zr_rem ds la se th).2.2)
  else (pb + (2 + zr_G (ln - 2) + zr_G ds), bw + (2 + zr_G (ln - 2) + zr_G ds), rc, (zr_rem ds la se th).1, (zr_rem ds la se th).2.1, (zr_rem ds la se th).2.2)
/-- .. a piece more -/
def zr_pc (ln ds pb bw rc la se th : Nat) : Nat × Nat × Nat × Nat × Nat × Nat :=
  if ds = 0 then (pb + 9, bw + 9, rc, la, se, th) else zr_cm ln ds pb bw rc la se th
def rmX4_gammaBits : Room := { frames := 0, cells := 0, slots := 0, locals := 0 }
set_option maxHeartbeats 4000000 in
set_option maxRecDepth 100000 in
/-- gammaBits -/
theorem c_gammaBits (l : Launch) (D : va_G) (cI cZ cR : ClassId) (x_ : Nat) (h0 : x_ < 65536) : zk_Rd l yX4_gammaBits wsX4_gammaBits rmX4_gammaBits D (zk_t cI cZ cR) [.int (nI x_)] [] (nI (zr_G x_)) := by
  refine zk_enterR RX4 cX4_gammaBits 3 .int (by decide) rfl rfl (Nat.le_of_ble_eq_true rfl) (Or.inl rfl) ?_
  intro p e s m args below meth c ls Q hx hb hml hown hts hP hK hD hN hl hret
  have hl : lv_has ls 3 [(0, .int (nI x_))] := hl
  refine lv_iconst (v := (nI 1)) hx hb dX4_gammaBits_0 (by decide +kernel) ?_
  refine lv_istore_n (lv' := [(1, .int (nI 1)), (0, .int (nI x_))]) hx hb dX4_gammaBits_1 rfl hl (by decide) rfl (fun ls hl => ?_)
  refine lv_iload_n hx hb dX4_gammaBits_2 rfl (lv_at hl 1 rfl) ?_
  refine lv_istore_n (lv' := [(2, .int (nI x_)), (1, .int (nI 1)), (0, .int (nI x_))]) hx hb dX4_gammaBits_3 rfl hl (by decide) rfl (fun ls hl => ?_)
  have L4 : ∀ (n : Nat) (bi : Nat) (re : Nat) (ls : Array Slot), (re < 65536) → (bi + zr_G re = zr_G x_ + 1) → (re) < n → lv_has ls 3 [(0, .int (nI x_)), (1, .int (nI bi)), (2, .int (nI re))] → W p l e rmX4_gammaBits s m args below meth c s.heap [] 0 0 Q (F0 m 4 ls []) := by
    intro n
    induction n with
    | zero => intro bi re ls g4_0 g4_1 hm hl; exact absurd hm (by omega)
    | succ n ih4 =>
      intro bi re ls g4_0 g4_1 hm hl
      refine lv_iload_n hx hb dX4_gammaBits_4 rfl (lv_at hl 2 rfl) ?_
      refine lv_iconst (v := (nI 1)) hx hb dX4_gammaBits_5 (by decide +kernel) ?_
      refine zk_icmp_le (tgt := 19) hx hb (by omega) (by omega) dX4_gammaBits_6 (by decide) (fun c_1 => ?_) (fun c_1 => ?_)
      · skip
        rw [zr_G_1 (x := re) c_1] at g4_1
        refine lv_iload_n hx hb dX4_gammaBits_19 rfl (lv_at hl 1 rfl) ?_
        exact hret _ ls _ dX4_gammaBits_20 (by rw [show bi = zr_G x_ by omega])
      · skip
        refine lv_iinc (v := (nI (bi + 2))) (lv' := [(1, .int (nI (bi + 2))), (0, .int (nI x_)), (2, .int (nI re))]) hx hb dX4_gammaBits_9 hl (k := 1) rfl (zk_inc2 bi) (by decide) rfl (fun ls hl => ?_)
        refine lv_iload_n hx hb dX4_gammaBits_12 rfl (lv_at hl 2 rfl) ?_
        refine lv_iconst (v := (nI 1)) hx hb dX4_gammaBits_13 (by decide +kernel) ?_
        refine lv_ishr hx hb dX4_gammaBits_14 ?_
        refine zk_top (zk_shr1 (by omega)) ?_
        refine lv_istore_n (lv' := [(2, .int (nI (re / 2))), (1, .int (nI (bi + 2))), (0, .int (nI x_))]) hx hb dX4_gammaBits_15 rfl hl (by decide) rfl (fun ls hl => ?_)
        refine lv_goto (tgt := 4) hx hb dX4_gammaBits_16 (by decide) ?_
        exact ih4 (bi + 2) (re / 2) ls (by omega) (by rw [zr_G_s c_1] at g4_1; omega) (by omega) (lv_sub hl [2, 1, 0] rfl)
  exact L4 (x_ + 1) 1 x_ ls (by omega) (by omega) (by omega) (lv_sub hl [2, 1, 0] rfl)
def rmX2_begin : Room := { frames := 0, cells := 0, slots := 0, locals := 0 }
set_option maxRecDepth 20000 in
theorem ziX2_begin_2 : ∀ w ∈ wsX20, w ∈ wsX2_begin := by decide +kernel
set_option maxHeartbeats 4000000 in
set_option maxRecDepth 100000 in
/-- Row.begin -/
theorem c_begin (l : Launch) (D : va_G) (cI cZ cR : ClassId) (r_ : Nat) (ra : Nat) (rb : Nat) (rd : Nat) (ct : Nat) (pb : Nat) (bw : Nat) (rc : Nat) (to : Nat) (la : Nat) (se : Nat) (th : Nat) : zk_Wv l yX2_begin wsX2_begin rmX2_begin D (zk_t cI cZ cR) [.ref r_] [(r_, .inr (2, [.ref ra, .ref rb, .ref rd, .int (nI ct), .int (nI pb), .int (nI bw), .int (nI rc), .int (nI to), .int (nI la), .int (nI se), .int (nI th)]))] (fun _ : Unit => True) (fun _ => [(r_, .inr (2, [.ref ra, .ref rb, .ref rd, .int (nI 0), .int (nI 0), .int (nI 0), .int (nI 0), .int (nI to), .int (nI 0), .int (nI 0), .int (nI 0)]))]) := by
  refine zk_enterV RX2 cX2_begin 1 (by decide) rfl rfl (Nat.le_of_ble_eq_true rfl) ?_
  intro p e s m args below meth c ls A Q hx hb hml hown hts hP hK hD hN hl hA hS hret
  have hl : lv_has ls 1 [(0, .ref r_)] := hl
  have f21 := hts (.fieldLink RX2 21 "MatchFinders$Row" "count" "I") (by decide +kernel)
  have f25 := hts (.fieldLink RX2 25 "MatchFinders$Row" "plainBits" "I") (by decide +kernel)
  have f28 := hts (.fieldLink RX2 28 "MatchFinders$Row" "bitsWithRepeats" "I") (by decide +kernel)
  have f31 := hts (.fieldLink RX2 31 "MatchFinders$Row" "repeatCount" "I") (by decide +kernel)
  have f34 := hts (.fieldLink RX2 34 "MatchFinders$Row" "latest" "I") (by decide +kernel)
  have f37 := hts (.fieldLink RX2 37 "MatchFinders$Row" "second" "I") (by decide +kernel)
  have f40 := hts (.fieldLink RX2 40 "MatchFinders$Row" "third" "I") (by decide +kernel)
  refine lv_aload_n hx hb dX2_begin_0 rfl (lv_at hl 0 rfl) ?_
  refine lv_iconst (v := (nI 0)) hx hb dX2_begin_1 (by decide +kernel) ?_
  refine va_put (D := D) (ci := 2) (v := .int (nI 0)) (ty := .int) (C := RX2) (T := TX2) (N := 11) hx hb hts ziX2_begin_2 tyX2 tyX2_ok nmX2 hown hK hP (zk_D hD rfl) hS 0 rfl rfl 3 (by decide) f21 (fun _ h9 => h9) rfl (by decide +kernel) rfl rfl (Nat.le_of_ble_eq_true rfl) dX2_begin_2 (fun H locs hP _ hS => ?_)
  have hP : va_P D vwCl [(r_, .inr (2, [.ref ra, .ref rb, .ref rd, .int (nI 0), .int (nI pb), .int (nI bw), .int (nI rc), .int (nI to), .int (nI la), .int (nI se), .int (nI th)]))] H := hP
  refine lv_aload_n hx hb dX2_begin_5 rfl (lv_at hl 0 rfl) ?_
  refine lv_iconst (v := (nI 0)) hx hb dX2_begin_6 (by decide +kernel) ?_
  refine va_put (D := D) (ci := 2) (v := .int (nI 0)) (ty := .int) (C := RX2) (T := TX2) (N := 11) hx hb hts ziX2_begin_2 tyX2 tyX2_ok nmX2 hown hK hP (zk_D hD rfl) hS 0 rfl rfl 4 (by decide) f25 (fun _ h9 => h9) rfl (by decide +kernel) rfl rfl (Nat.le_of_ble_eq_true rfl) dX2_begin_7 (fun H locs hP _ hS => ?_)
  have hP : va_P D vwCl [(r_, .inr (2, [.ref ra, .ref rb, .ref rd, .int (nI 0), .int (nI 0), .int (nI bw), .int (nI rc), .int (nI to), .int (nI la), .int (nI se), .int (nI th)]))] H := hP
  refine lv_aload_n hx hb dX2_begin_10 rfl (lv_at hl 0 rfl) ?_
  refine lv_iconst (v := (nI 0)) hx hb dX2_begin_11 (by decide +kernel) ?_
  refine va_put (D := D) (ci := 2) (v := .int (nI 0)) (ty := .int) (C := RX2) (T := TX2) (N := 11) hx hb hts ziX2_begin_2 tyX2 tyX2_ok nmX2 hown hK hP (zk_D hD rfl) hS 0 rfl rfl 5 (by decide) f28 (fun _ h9 => h9) rfl (by decide +kernel) rfl rfl (Nat.le_of_ble_eq_true rfl) dX2_begin_12 (fun H locs hP _ hS => ?_)
  have hP : va_P D vwCl [(r_, .inr (2, [.ref ra, .ref rb, .ref rd, .int (nI 0), .int (nI 0), .int (nI 0), .int (nI rc), .int (nI to), .int (nI la), .int (nI se), .int (nI th)]))] H := hP
  refine lv_aload_n hx hb dX2_begin_15 rfl (lv_at hl 0 rfl) ?_
  refine lv_iconst (v := (nI 0)) hx hb dX2_begin_16 (by decide +kernel) ?_
  refine va_put (D := D) (ci := 2) (v := .int (nI 0)) (ty := .int) (C := RX2) (T := TX2) (N := 11) hx hb hts ziX2_begin_2 tyX2 tyX2_ok nmX2 hown hK hP (zk_D hD rfl) hS 0 rfl rfl 6 (by decide) f31 (fun _ h9 => h9) rfl (by decide +kernel) rfl rfl (Nat.le_of_ble_eq_true rfl) dX2_begin_17 (fun H locs hP _ hS => ?_)
  have hP : va_P D vwCl [(r_, .inr (2, [.ref ra, .ref rb, .ref rd, .int (nI 0), .int (nI 0), .int (nI 0), .int (nI 0), .int (nI to), .int (nI la), .int (nI se), .int (nI th)]))] H := hP
  refine lv_aload_n hx hb dX2_begin_20 rfl (lv_at hl 0 rfl) ?_
  refine lv_iconst (v := (nI 0)) hx hb dX2_begin_21 (by decide +kernel) ?_
  refine va_put (D := D) (ci := 2) (v := .int (nI 0)) (ty := .int) (C := RX2) (T := TX2) (N := 11) hx hb hts ziX2_begin_2 tyX2 tyX2_ok nmX2 hown hK hP (zk_D hD rfl) hS 0 rfl rfl 8 (by decide) f34 (fun _ h9 => h9) rfl (by decide +kernel) rfl rfl (Nat.le_of_ble_eq_true rfl) dX2_begin_22 (fun H locs hP _ hS => ?_)
  have hP : va_P D vwCl [(r_, .inr (2, [.ref ra, .ref rb, .ref rd, .int (nI 0), .int (nI 0), .int (nI 0), .int (nI 0), .int (nI to), .int (nI 0), .int (nI se), .int (nI th)]))] H := hP
  refine lv_aload_n hx hb dX2_begin_25 rfl (lv_at hl 0 rfl) ?_
  refine lv_iconst (v := (nI 0)) hx hb dX2_begin_26 (by decide +kernel) ?_
  refine va_put (D := D) (ci := 2) (v := .int (nI 0)) (ty := .int) (C := RX2) (T := TX2) (N := 11) hx hb hts ziX2_begin_2 tyX2 tyX2_ok nmX2 hown hK hP (zk_D hD rfl) hS 0 rfl rfl 9 (by decide) f37 (fun _ h9 => h9) rfl (by decide +kernel) rfl rfl (Nat.le_of_ble_eq_true rfl) dX2_begin_27 (fun H locs hP _ hS => ?_)
  have hP : va_P D vwCl [(r_, .inr (2, [.ref ra, .ref rb, .ref rd, .int (nI 0), .int (nI 0), .int (nI 0), .int (nI 0), .int (nI to), .int (nI 0), .int (nI 0), .int (nI th)]))] H := hP
  refine lv_aload_n hx hb dX2_begin_30 rfl (lv_at hl 0 rfl) ?_
  refine lv_iconst (v := (nI 0)) hx hb dX2_begin_31 (by decide +kernel) ?_
  refine va_put (D := D) (ci := 2) (v := .int (nI 0)) (ty := .int) (C := RX2) (T := TX2) (N := 11) hx hb hts ziX2_begin_2 tyX2 tyX2_ok nmX2 hown hK hP (zk_D hD rfl) hS 0 rfl rfl 10 (by decide) f40 (fun _ h9 => h9) rfl (by decide +kernel) rfl rfl (Nat.le_of_ble_eq_true rfl) dX2_begin_32 (fun H locs hP _ hS => ?_)
  have hP : va_P D vwCl [(r_, .inr (2, [.ref ra, .ref rb, .ref rd, .int (nI 0), .int (nI 0), .int (nI 0), .int (nI 0), .int (nI to), .int (nI 0), .int (nI 0), .int (nI 0)]))] H := hP
  exact hret _ ls _ _ () dX2_begin_35 trivial hP hS
def rmX2_remember : Room := { frames := 0, cells := 0, slots := 0, locals := 0 }
set_option maxRecDepth 20000 in
theorem ziX2_remember_2 : ∀ w ∈ wsX20, w ∈ wsX2_remember := by decide +kernel
set_option maxHeartbeats 4000000 in
set_option maxRecDepth 100000 in
/-- Row.remember -/
theorem c_remember (l : Launch) (D : va_G) (cI cZ cR : ClassId) (r_ : Nat) (ra : Nat) (rb : Nat) (rd : Nat) (ct : Nat) (pb : Nat) (bw : Nat) (rc : Nat) (to : Nat) (la : Nat) (se : Nat) (th : Nat) (d_ : Nat) (h0 : d_ ≤ 300) (h1 : la ≤ 300) (h2 : se ≤ 300) (h3 : th ≤ 300) : zk_Wv l yX2_remember wsX2_remember rmX2_remember D (zk_t cI cZ cR) [.ref r_, .int (nI d_)] [(r_, .inr (2, [.ref ra, .ref rb, .ref rd, .int (nI ct), .int (nI pb), .int (nI bw), .int (nI rc), .int (nI to), .int (nI la), .int (nI se), .int (nI th)]))] (fun u : Nat × Nat × Nat => match u with | (la2, se2, th2) => zr_rem d_ la se th = (la2, se2, th2)) (fun u => match u with | (la2, se2, th2) => [(r_, .inr (2, [.ref ra, .ref rb, .ref rd, .int (nI ct), .int (nI pb), .int (nI bw), .int (nI rc), .int (nI to), .int (nI la2), .int (nI se2), .int (nI th2)]))]) := by
  refine zk_enterV RX2 cX2_remember 2 (by decide) rfl rfl (Nat.le_of_ble_eq_true rfl) ?_
  intro p e s m args below meth c ls A Q hx hb hml hown hts hP hK hD hN hl hA hS hret
  have hl : lv_has ls 2 [(0, .ref r_), (1, .int (nI d_))] := hl
  have f34 := hts (.fieldLink RX2 34 "MatchFinders$Row" "latest" "I") (by decide +kernel)
  have f37 := hts (.fieldLink RX2 37 "MatchFinders$Row" "second" "I") (by decide +kernel)
  have f40 := hts (.fieldLink RX2 40 "MatchFinders$Row" "third" "I") (by decide +kernel)
  refine lv_iload_n hx hb dX2_remember_0 rfl (lv_at hl 1 rfl) ?_
  refine lv_aload_n hx hb dX2_remember_1 rfl (lv_at hl 0 rfl) ?_
  refine va_get (D := D) (ci := 2) (v := .int (nI la)) (C := RX2) (T := TX2) (N := 11) hx hb hts ziX2_remember_2 hown hK hP 0 rfl rfl 8 (by decide) f34 (fun _ h9 => h9) rfl dX2_remember_2 ?_
  refine zk_icmp_ne (tgt := 9) hx hb (by omega) (by omega) dX2_remember_5 (by decide) (fun c_1 => ?_) (fun c_1 => ?_)
  · skip
    refine lv_iload_n hx hb dX2_remember_9 rfl (lv_at hl 1 rfl) ?_
    refine lv_aload_n hx hb dX2_remember_10 rfl (lv_at hl 0 rfl) ?_
    refine va_get (D := D) (ci := 2) (v := .int (nI se)) (C := RX2) (T := TX2) (N := 11) hx hb hts ziX2_remember_2 hown hK hP 0 rfl rfl 9 (by decide) f37 (fun _ h9 => h9) rfl dX2_remember_11 ?_
    refine zk_icmp_eq (tgt := 25) hx hb (by omega) (by omega) dX2_remember_14 (by decide) (fun c_2 => ?_) (fun c_2 => ?_)
    · skip
      refine lv_aload_n hx hb dX2_remember_25 rfl (lv_at hl 0 rfl) ?_
      refine lv_aload_n hx hb dX2_remember_26 rfl (lv_at hl 0 rfl) ?_
      refine va_get (D := D) (ci := 2) (v := .int (nI la)) (C := RX2) (T := TX2) (N := 11) hx hb hts ziX2_remember_2 hown hK hP 0 rfl rfl 8 (by decide) f34 (fun _ h9 => h9) rfl dX2_remember_27 ?_
      refine va_put (D := D) (ci := 2) (v := .int (nI la)) (ty := .int) (C := RX2) (T := TX2) (N := 11) hx hb hts ziX2_remember_2 tyX2 tyX2_ok nmX2 hown hK hP (zk_D hD rfl) hS 0 rfl rfl 9 (by decide) f37 (fun _ h9 => h9) rfl (by decide +kernel) rfl rfl (Nat.le_of_ble_eq_true rfl) dX2_remember_30 (fun H locs hP _ hS => ?_)
      have hP : va_P D vwCl [(r_, .inr (2, [.ref ra, .ref rb, .ref rd, .int (nI ct), .int (nI pb), .int (nI bw), .int (nI rc), .int (nI to), .int (nI la), .int (nI la), .int (nI th)]))] H := hP
      refine lv_aload_n hx hb dX2_remember_33 rfl (lv_at hl 0 rfl) ?_
      refine lv_iload_n hx hb dX2_remember_34 rfl (lv_at hl 1 rfl) ?_
      refine va_put (D := D) (ci := 2) (v := .int (nI d_)) (ty := .int) (C := RX2) (T := TX2) (N := 11) hx hb hts ziX2_remember_2 tyX2 tyX2_ok nmX2 hown hK hP (zk_D hD rfl) hS 0 rfl rfl 8 (by decide) f34 (fun _ h9 => h9) rfl (by decide +kernel) rfl rfl (Nat.le_of_ble_eq_true rfl) dX2_remember_35 (fun H locs hP _ hS => ?_)
      have hP : va_P D vwCl [(r_, .inr (2, [.ref ra, .ref rb, .ref rd, .int (nI ct), .int (nI pb), .int (nI bw), .int (nI rc), .int (nI to), .int (nI d_), .int (nI la), .int (nI th)]))] H := hP
      exact hret _ ls _ _ (d_, la, th) dX2_remember_38 (by rw [zr_rem, if_neg c_1, if_pos c_2]) hP hS
    · skip
      refine lv_aload_n hx hb dX2_remember_17 rfl (lv_at hl 0 rfl) ?_
      refine lv_aload_n hx hb dX2_remember_18 rfl (lv_at hl 0 rfl) ?_
      refine va_get (D := D) (ci := 2) (v := .int (nI se)) (C := RX2) (T := TX2) (N := 11) hx hb hts ziX2_remember_2 hown hK hP 0 rfl rfl 9 (by decide) f37 (fun _ h9 => h9) rfl dX2_remember_19 ?_
      refine va_put (D := D) (ci := 2) (v := .int (nI se)) (ty := .int) (C := RX2) (T := TX2) (N := 11) hx hb hts ziX2_remember_2 tyX2 tyX2_ok nmX2 hown hK hP (zk_D hD rfl) hS 0 rfl rfl 10 (by decide) f40 (fun _ h9 => h9) rfl (by decide +kernel) rfl rfl (Nat.le_of_ble_eq_true rfl) dX2_remember_22 (fun H locs hP _ hS => ?_)
      have hP : va_P D vwCl [(r_, .inr (2, [.ref ra, .ref rb, .ref rd, .int (nI ct), .int (nI pb), .int (nI bw), .int (nI rc), .int (nI to), .int (nI la), .int (nI se), .int (nI se)]))] H := hP
      refine lv_aload_n hx hb dX2_remember_25 rfl (lv_at hl 0 rfl) ?_
      refine lv_aload_n hx hb dX2_remember_26 rfl (lv_at hl 0 rfl) ?_
      refine va_get (D := D) (ci := 2) (v := .int (nI la)) (C := RX2) (T := TX2) (N := 11) hx hb hts ziX2_remember_2 hown hK hP 0 rfl rfl 8 (by decide) f34 (fun _ h9 => h9) rfl dX2_remember_27 ?_
      refine va_put (D := D) (ci := 2) (v := .int (nI la)) (ty := .int) (C := RX2) (T := TX2) (N := 11) hx hb hts ziX2_remember_2 tyX2 tyX2_ok nmX2 hown hK hP (zk_D hD rfl) hS 0 rfl rfl 9 (by decide) f37 (fun _ h9 => h9) rfl (by decide +kernel) rfl rfl (Nat.le_of_ble_eq_true rfl) dX2_remember_30 (fun H locs hP _ hS => ?_)
      have hP : va_P D vwCl [(r_, .inr (2, [.ref ra, .ref rb, .ref rd, .int (nI ct), .int (nI pb), .int (nI bw), .int (nI rc), .int (nI to), .int (nI la), .int (nI la), .int (nI se)]))] H := hP
      refine lv_aload_n hx hb dX2_remember_33 rfl (lv_at hl 0 rfl) ?_
      refine lv_iload_n hx hb dX2_remember_34 rfl (lv_at hl 1 rfl) ?_
      refine va_put (D := D) (ci := 2) (v := .int (nI d_)) (ty := .int) (C := RX2) (T := TX2) (N := 11) hx hb hts ziX2_remember_2 tyX2 tyX2_ok nmX2 hown hK hP (zk_D hD rfl) hS 0 rfl rfl 8 (by decide) f34 (fun _ h9 => h9) rfl (by decide +kernel) rfl rfl (Nat.le_of_ble_eq_true rfl) dX2_remember_35 (fun H locs hP _ hS => ?_)
      have hP : va_P D vwCl [(r_, .inr (2, [.ref ra, .ref rb, .ref rd, .int (nI ct), .int (nI pb), .int (nI bw), .int (nI rc), .int (nI to), .int (nI d_), .int (nI la), .int (nI se)]))] H := hP
      exact hret _ ls _ _ (d_, la, se) dX2_remember_38 (by rw [zr_rem, if_neg c_1, if_neg c_2]) hP hS
  · skip
    exact hret _ ls _ _ (la, se, th) dX2_remember_8 (by rw [zr_rem, if_pos c_1]) hP hS
def rmX2_countMatch : Room := { frames := 1, cells := 0, slots := 0, locals := 22 }
set_option maxRecDepth 20000 in
theorem ziX2_countMatch_2 : ∀ w ∈ wsX20, w ∈ wsX2_countMatch := by decide +kernel
set_option maxHeartbeats 4000000 in
set_option maxRecDepth 100000 in
/-- Row.countMatch -/
theorem c_countMatch (l : Launch) (D : va_G) (cI cZ cR : ClassId) (r_ : Nat) (ra : Nat) (rb : Nat) (rd : Nat) (ct : Nat) (pb : Nat) (bw : Nat) (rc : Nat) (to : Nat) (la : Nat) (se : Nat) (th : Nat) (l_ : Nat) (d_ : Nat) (h0 : 2 ≤ l_) (h1 : l_ ≤ 300) (h2 : d_ ≤ 300) (h3 : la ≤ 300) (h4 : se ≤ 300) (h5 : th ≤ 300) : zk_Wv l yX2_countMatch wsX2_countMatch rmX2_countMatch D (zk_t cI cZ cR) [.ref r_, .int (nI l_), .int (nI d_)] [(r_, .inr (2, [.ref ra, .ref rb, .ref rd, .int (nI ct), .int (nI pb), .int (nI bw), .int (nI rc), .int (nI to), .int (nI la), .int (nI se), .int (nI th)]))] (fun u : Nat × Nat × Nat × Nat × Nat × Nat => match u with | (pb2, bw2, rc2, la2, se2, th2) => zr_cm l_ d_ pb bw rc la se th = (pb2, bw2, rc2, la2, se2, th2)) (fun u => match u with | (pb2, bw2, rc2, la2, se2, th2) => [(r_, .inr (2, [.ref ra, .ref rb, .ref rd, .int (nI ct), .int (nI pb2), .int (nI bw2), .int (nI rc2), .int (nI to), .int (nI la2), .int (nI se2), .int (nI th2)]))]) := by
  refine zk_enterV RX2 cX2_countMatch 5 (by decide) rfl rfl (Nat.le_of_ble_eq_true rfl) ?_
  intro p e s m args below meth c ls A Q hx hb hml hown hts hP hK hD hN hl hA hS hret
  have hl : lv_has ls 5 [(0, .ref r_), (1, .int (nI l_)), (2, .int (nI d_))] := hl
  have f25 := hts (.fieldLink RX2 25 "MatchFinders$Row" "plainBits" "I") (by decide +kernel)
  have f28 := hts (.fieldLink RX2 28 "MatchFinders$Row" "bitsWithRepeats" "I") (by decide +kernel)
  have f31 := hts (.fieldLink RX2 31 "MatchFinders$Row" "repeatCount" "I") (by decide +kernel)
  have f34 := hts (.fieldLink RX2 34 "MatchFinders$Row" "latest" "I") (by decide +kernel)
  have f37 := hts (.fieldLink RX2 37 "MatchFinders$Row" "second" "I") (by decide +kernel)
  have f40 := hts (.fieldLink RX2 40 "MatchFinders$Row" "third" "I") (by decide +kernel)
  refine lv_iload_n hx hb dX2_countMatch_0 rfl (lv_at hl 1 rfl) ?_
  refine lv_iconst (v := (nI 2)) hx hb dX2_countMatch_1 (by decide +kernel) ?_
  refine zk_sub (v := l_ - 2) hx hb (by omega) dX2_countMatch_2 ?_
  refine zk_rdSN (As := [.int (nI (l_ - 2))]) (rest := []) ⟨hx, hb, hml, hown, hts⟩ hN (c_gammaBits l D cI cZ cR (l_ - 2) (by omega)) ⟨va_cnB 1 hts gX2_countMatch_X4_gammaBits_n47 rfl rfl rfl hN.2.1 (hts (.initialized RX4) (by decide +kernel)) (by decide +kernel) ⟨Nat.le_of_ble_eq_true rfl, Nat.le_of_ble_eq_true rfl⟩, hts (.static yX4_gammaBits) (by decide +kernel), trivial⟩ hK hP (zk_D hD rfl) [] rfl (by decide) rfl hl.1 rfl (Nat.le_of_ble_eq_true rfl) dX2_countMatch_3 ⟨Nat.zero_le _, Nat.zero_le _⟩ ?_
  refine lv_istore_n (lv' := [(3, .int (nI (zr_G (l_ - 2)))), (0, .ref r_), (1, .int (nI l_)), (2, .int (nI d_))]) hx hb dX2_countMatch_6 rfl hl (by decide) rfl (fun ls hl => ?_)
  refine lv_iconst (v := (nI 2)) hx hb dX2_countMatch_7 (by decide +kernel) ?_
  refine lv_iload_n hx hb dX2_countMatch_8 rfl (lv_at hl 0 rfl) ?_
  refine zk_add (v := 2 + (zr_G (l_ - 2))) hx hb (rfl) dX2_countMatch_9 ?_
  refine lv_iload_n hx hb dX2_countMatch_10 rfl (lv_at hl 3 rfl) ?_
  refine zk_rdSN (As := [.int (nI d_)]) (rest := [.int (nI (2 + (zr_G (l_ - 2))))]) ⟨hx, hb, hml, hown, hts⟩ hN (c_gammaBits l D cI cZ cR d_ (by omega)) ⟨va_cnB 1 hts gX2_countMatch_X4_gammaBits_n47 rfl rfl rfl hN.2.1 (hts (.initialized RX4) (by decide +kernel)) (by decide +kernel) ⟨Nat.le_of_ble_eq_true rfl, Nat.le_of_ble_eq_true rfl⟩, hts (.static yX4_gammaBits) (by decide +kernel), trivial⟩ hK hP (zk_D hD rfl) [] rfl (by decide) rfl hl.1 rfl (Nat.le_of_ble_eq_true rfl) dX2_countMatch_11 ⟨Nat.zero_le _, Nat.zero_le _⟩ ?_
  refine zk_add (v := (2 + (zr_G (l_ - 2))) + (zr_G d_)) hx hb (rfl) dX2_countMatch_14 ?_
  refine lv_istore (lv' := [(4, .int (nI ((2 + (zr_G (l_ - 2))) + (zr_G d_)))), (3, .int (nI (zr_G (l_ - 2)))), (0, .ref r_), (1, .int (nI l_)), (2, .int (nI d_))]) hx hb dX2_countMatch_15 hl (by decide) rfl (fun ls hl => ?_)
  refine lv_aload_n hx hb dX2_countMatch_17 rfl (lv_at hl 2 rfl) ?_
  refine lv_dup hx hb dX2_countMatch_18 rfl ?_
  refine va_get (D := D) (ci := 2) (v := .int (nI pb)) (C := RX2) (T := TX2) (N := 11) hx hb hts ziX2_countMatch_2 hown hK hP 0 rfl rfl 4 (by decide) f25 (fun _ h9 => h9) rfl dX2_countMatch_19 ?_
  refine lv_iload hx hb dX2_countMatch_22 (lv_at hl 0 rfl) ?_
  refine zk_add (v := pb + ((2 + (zr_G (l_ - 2))) + (zr_G d_))) hx hb (rfl) dX2_countMatch_24 ?_
  refine va_put (D := D) (ci := 2) (v := .int (nI (pb + ((2 + (zr_G (l_ - 2))) + (zr_G d_))))) (ty := .int) (C := RX2) (T := TX2) (N := 11) hx hb hts ziX2_countMatch_2 tyX2 tyX2_ok nmX2 hown hK hP (zk_D hD rfl) hS 0 rfl rfl 4 (by decide) f25 (fun _ h9 => h9) rfl (by decide +kernel) rfl rfl (Nat.le_of_ble_eq_true rfl) dX2_countMatch_25 (fun H locs hP _ hS => ?_)
  have hP : va_P D vwCl [(r_, .inr (2, [.ref ra, .ref rb, .ref rd, .int (nI ct), .int (nI (pb + ((2 + (zr_G (l_ - 2))) + (zr_G d_)))), .int (nI bw), .int (nI rc), .int (nI to), .int (nI la), .int (nI se), .int (nI th)]))] H := hP
  refine lv_iload_n hx hb dX2_countMatch_28 rfl (lv_at hl 4 rfl) ?_
  refine lv_aload_n hx hb dX2_countMatch_29 rfl (lv_at hl 2 rfl) ?_
  refine va_get (D := D) (ci := 2) (v := .int (nI la)) (C := RX2) (T := TX2) (N := 11) hx hb hts ziX2_countMatch_2 hown hK hP 0 rfl rfl 8 (by decide) f34 (fun _ h9 => h9) rfl dX2_countMatch_30 ?_
  refine zk_icmp_eq (tgt := 52) hx hb (by omega) (by omega) dX2_countMatch_33 (by decide) (fun c_1 => ?_) (fun c_1 => ?_)
  · skip
    refine lv_aload_n hx hb dX2_countMatch_52 rfl (lv_at hl 2 rfl) ?_
    refine lv_dup hx hb dX2_countMatch_53 rfl ?_
    refine va_get (D := D) (ci := 2) (v := .int (nI rc)) (C := RX2) (T := TX2) (N := 11) hx hb hts ziX2_countMatch_2 hown hK hP 0 rfl rfl 6 (by decide) f31 (fun _ h9 => h9) rfl dX2_countMatch_54 ?_
    refine lv_iconst (v := (nI 1)) hx hb dX2_countMatch_57 (by decide +kernel) ?_
    refine zk_add (v := rc + 1) hx hb (rfl) dX2_countMatch_58 ?_
    refine va_put (D := D) (ci := 2) (v := .int (nI (rc + 1))) (ty := .int) (C := RX2) (T := TX2) (N := 11) hx hb hts ziX2_countMatch_2 tyX2 tyX2_ok nmX2 hown hK hP (zk_D hD rfl) hS 0 rfl rfl 6 (by decide) f31 (fun _ h9 => h9) rfl (by decide +kernel) rfl rfl (Nat.le_of_ble_eq_true rfl) dX2_countMatch_59 (fun H locs hP _ hS => ?_)
    have hP : va_P D vwCl [(r_, .inr (2, [.ref ra, .ref rb, .ref rd, .int (nI ct), .int (nI (pb + ((2 + (zr_G (l_ - 2))) + (zr_G d_)))), .int (nI bw), .int (nI (rc + 1)), .int (nI to), .int (nI la), .int (nI se), .int (nI th)]))] H := hP
    refine lv_aload_n hx hb dX2_countMatch_62 rfl (lv_at hl 2 rfl) ?_
    refine lv_dup hx hb dX2_countMatch_63 rfl ?_
    refine va_get (D := D) (ci := 2) (v := .int (nI bw)) (C := RX2) (T := TX2) (N := 11) hx hb hts ziX2_countMatch_2 hown hK hP 0 rfl rfl 5 (by decide) f28 (fun _ h9 => h9) rfl dX2_countMatch_64 ?_
    refine lv_iconst (v := (nI 4)) hx hb dX2_countMatch_67 (by decide +kernel) ?_
    refine lv_iload_n hx hb dX2_countMatch_68 rfl (lv_at hl 1 rfl) ?_
    refine zk_add (v := 4 + (zr_G (l_ - 2))) hx hb (rfl) dX2_countMatch_69 ?_
    refine zk_add (v := bw + (4 + (zr_G (l_ - 2)))) hx hb (rfl) dX2_countMatch_70 ?_
    refine va_put (D := D) (ci := 2) (v := .int (nI (bw + (4 + (zr_G (l_ - 2)))))) (ty := .int) (C := RX2) (T := TX2) (N := 11) hx hb hts ziX2_countMatch_2 tyX2 tyX2_ok nmX2 hown hK hP (zk_D hD rfl) hS 0 rfl rfl 5 (by decide) f28 (fun _ h9 => h9) rfl (by decide +kernel) rfl rfl (Nat.le_of_ble_eq_true rfl) dX2_countMatch_71 (fun H locs hP _ hS => ?_)
    have hP : va_P D vwCl [(r_, .inr (2, [.ref ra, .ref rb, .ref rd, .int (nI ct), .int (nI (pb + ((2 + (zr_G (l_ - 2))) + (zr_G d_)))), .int (nI (bw + (4 + (zr_G (l_ - 2))))), .int (nI (rc + 1)), .int (nI to), .int (nI la), .int (nI se), .int (nI th)]))] H := hP
    refine lv_goto (tgt := 88) hx hb dX2_countMatch_74 (by decide) ?_
    refine lv_aload_n hx hb dX2_countMatch_88 rfl (lv_at hl 2 rfl) ?_
    refine lv_iload_n hx hb dX2_countMatch_89 rfl (lv_at hl 4 rfl) ?_
    refine zk_wrV (As := [.int (nI d_)]) (rest := []) ⟨hx, hb, hml, hown, hts⟩ hN (c_remember l D cI cZ cR r_ ra rb rd ct (pb + ((2 + (zr_G (l_ - 2))) + (zr_G d_))) (bw + (4 + (zr_G (l_ - 2)))) (rc + 1) to la se th d_ (by omega) (by omega) (by omega) (by omega)) (cwV 1 hts gX2_countMatch_X2_remember rfl rfl rfl (by decide +kernel) ⟨Nat.le_of_ble_eq_true rfl, Nat.le_of_ble_eq_true rfl⟩) hK hP (zk_D hD rfl) hS hA [0] rfl (by decide) (fun _ => rfl) rfl rfl rfl rfl hl.1 rfl (Nat.le_of_ble_eq_true rfl) dX2_countMatch_90 ⟨Nat.zero_le _, Nat.zero_le _⟩ (fun u H locs hu hP hS => ?_)
    obtain ⟨la9, se9, th9⟩ := u
    have hu : zr_rem d_ la se th = (la9, se9, th9) := hu
    have hP : va_P D vwCl [(r_, .inr (2, [.ref ra, .ref rb, .ref rd, .int (nI ct), .int (nI (pb + ((2 + (zr_G (l_ - 2))) + (zr_G d_)))), .int (nI (bw + (4 + (zr_G (l_ - 2))))), .int (nI (rc + 1)), .int (nI to), .int (nI la9), .int (nI se9), .int (nI th9)]))] H := hP
    exact hret _ ls _ _ ((pb + ((2 + (zr_G (l_ - 2))) + (zr_G d_))), (bw + (4 + (zr_G (l_ - 2)))), (rc + 1), la9, se9, th9) dX2_countMatch_93 (by rw [zr_cm, if_pos (Or.inl c_1), hu]) hP hS
  · skip
    refine lv_iload_n hx hb dX2_countMatch_36 rfl (lv_at hl 4 rfl) ?_
    refine lv_aload_n hx hb dX2_countMatch_37 rfl (lv_at hl 2 rfl) ?_
    refine va_get (D := D) (ci := 2) (v := .int (nI se)) (C := RX2) (T := TX2) (N := 11) hx hb hts ziX2_countMatch_2 hown hK hP 0 rfl rfl 9 (by decide) f37 (fun _ h9 => h9) rfl dX2_countMatch_38 ?_
    refine zk_icmp_eq (tgt := 52) hx hb (by omega) (by omega) dX2_countMatch_41 (by decide) (fun c_2 => ?_) (fun c_2 => ?_)
    · skip
      refine lv_aload_n hx hb dX2_countMatch_52 rfl (lv_at hl 2 rfl) ?_
      refine lv_dup hx hb dX2_countMatch_53 rfl ?_
      refine va_get (D := D) (ci := 2) (v := .int (nI rc)) (C := RX2) (T := TX2) (N := 11) hx hb hts ziX2_countMatch_2 hown hK hP 0 rfl rfl 6 (by decide) f31 (fun _ h9 => h9) rfl dX2_countMatch_54 ?_
      refine lv_iconst (v := (nI 1)) hx hb dX2_countMatch_57 (by decide +kernel) ?_
      refine zk_add (v := rc + 1) hx hb (rfl) dX2_countMatch_58 ?_
      refine va_put (D := D) (ci := 2) (v := .int (nI (rc + 1))) (ty := .int) (C := RX2) (T := TX2) (N := 11) hx hb hts ziX2_countMatch_2 tyX2 tyX2_ok nmX2 hown hK hP (zk_D hD rfl) hS 0 rfl rfl 6 (by decide) f31 (fun _ h9 => h9) rfl (by decide +kernel) rfl rfl (Nat.le_of_ble_eq_true rfl) dX2_countMatch_59 (fun H locs hP _ hS => ?_)
      have hP : va_P D vwCl [(r_, .inr (2, [.ref ra, .ref rb, .ref rd, .int (nI ct), .int (nI (pb + ((2 + (zr_G (l_ - 2))) + (zr_G d_)))), .int (nI bw), .int (nI (rc + 1)), .int (nI to), .int (nI la), .int (nI se), .int (nI th)]))] H := hP
      refine lv_aload_n hx hb dX2_countMatch_62 rfl (lv_at hl 2 rfl) ?_
      refine lv_dup hx hb dX2_countMatch_63 rfl ?_
      refine va_get (D := D) (ci := 2) (v := .int (nI bw)) (C := RX2) (T := TX2) (N := 11) hx hb hts ziX2_countMatch_2 hown hK hP 0 rfl rfl 5 (by decide) f28 (fun _ h9 => h9) rfl dX2_countMatch_64 ?_
      refine lv_iconst (v := (nI 4)) hx hb dX2_countMatch_67 (by decide +kernel) ?_
      refine lv_iload_n hx hb dX2_countMatch_68 rfl (lv_at hl 1 rfl) ?_
      refine zk_add (v := 4 + (zr_G (l_ - 2))) hx hb (rfl) dX2_countMatch_69 ?_
      refine zk_add (v := bw + (4 + (zr_G (l_ - 2)))) hx hb (rfl) dX2_countMatch_70 ?_
      refine va_put (D := D) (ci := 2) (v := .int (nI (bw + (4 + (zr_G (l_ - 2)))))) (ty := .int) (C := RX2) (T := TX2) (N := 11) hx hb hts ziX2_countMatch_2 tyX2 tyX2_ok nmX2 hown hK hP (zk_D hD rfl) hS 0 rfl rfl 5 (by decide) f28 (fun _ h9 => h9) rfl (by decide +kernel) rfl rfl (Nat.le_of_ble_eq_true rfl) dX2_countMatch_71 (fun H locs hP _ hS => ?_)
      have hP : va_P D vwCl [(r_, .inr (2, [.ref ra, .ref rb, .ref rd, .int (nI ct), .int (nI (pb + ((2 + (zr_G (l_ - 2))) + (zr_G d_)))), .int (nI (bw + (4 + (zr_G (l_ - 2))))), .int (nI (rc + 1)), .int (nI to), .int (nI la), .int (nI se), .int (nI th)]))] H := hP
      refine lv_goto (tgt := 88) hx hb dX2_countMatch_74 (by decide) ?_
      refine lv_aload_n hx hb dX2_countMatch_88 rfl (lv_at hl 2 rfl) ?_
      refine lv_iload_n hx hb dX2_countMatch_89 rfl (lv_at hl 4 rfl) ?_
      refine zk_wrV (As := [.int (nI d_)]) (rest := []) ⟨hx, hb, hml, hown, hts⟩ hN (c_remember l D cI cZ cR r_ ra rb rd ct (pb + ((2 + (zr_G (l_ - 2))) + (zr_G d_))) (bw + (4 + (zr_G (l_ - 2)))) (rc + 1) to la se th d_ (by omega) (by omega) (by omega) (by omega)) (cwV 1 hts gX2_countMatch_X2_remember rfl rfl rfl (by decide +kernel) ⟨Nat.le_of_ble_eq_true rfl, Nat.le_of_ble_eq_true rfl⟩) hK hP (zk_D hD rfl) hS hA [0] rfl (by decide) (fun _ => rfl) rfl rfl rfl rfl hl.1 rfl (Nat.le_of_ble_eq_true rfl) dX2_countMatch_90 ⟨Nat.zero_le _, Nat.zero_le _⟩ (fun u H locs hu hP hS => ?_)
      obtain ⟨la9, se9, th9⟩ := u
      have hu : zr_rem d_ la se th = (la9, se9, th9) := hu
      have hP : va_P D vwCl [(r_, .inr (2, [.ref ra, .ref rb, .ref rd, .int (nI ct), .int (nI (pb + ((2 + (zr_G (l_ - 2))) + (zr_G d_)))), .int (nI (bw + (4 + (zr_G (l_ - 2))))), .int (nI (rc + 1)), .int (nI to), .int (nI la9), .int (nI se9), .int (nI th9)]))] H := hP
      exact hret _ ls _ _ ((pb + ((2 + (zr_G (l_ - 2))) + (zr_G d_))), (bw + (4 + (zr_G (l_ - 2)))), (rc + 1), la9, se9, th9) dX2_countMatch_93 (by rw [zr_cm, if_pos (Or.inr (Or.inl c_2)), hu]) hP hS
    · skip
      refine lv_iload_n hx hb dX2_countMatch_44 rfl (lv_at hl 4 rfl) ?_
      refine lv_aload_n hx hb dX2_countMatch_45 rfl (lv_at hl 2 rfl) ?_
      refine va_get (D := D) (ci := 2) (v := .int (nI th)) (C := RX2) (T := TX2) (N := 11) hx hb hts ziX2_countMatch_2 hown hK hP 0 rfl rfl 10 (by decide) f40 (fun _ h9 => h9) rfl dX2_countMatch_46 ?_
      refine zk_icmp_ne (tgt := 77) hx hb (by omega) (by omega) dX2_countMatch_49 (by decide) (fun c_3 => ?_) (fun c_3 => ?_)
      · skip
        refine lv_aload_n hx hb dX2_countMatch_77 rfl (lv_at hl 2 rfl) ?_
        refine lv_dup hx hb dX2_countMatch_78 rfl ?_
        refine va_get (D := D) (ci := 2) (v := .int (nI bw)) (C := RX2) (T := TX2) (N := 11) hx hb hts ziX2_countMatch_2 hown hK hP 0 rfl rfl 5 (by decide) f28 (fun _ h9 => h9) rfl dX2_countMatch_79 ?_
        refine lv_iload hx hb dX2_countMatch_82 (lv_at hl 0 rfl) ?_
        refine zk_add (v := bw + ((2 + (zr_G (l_ - 2))) + (zr_G d_))) hx hb (rfl) dX2_countMatch_84 ?_
        refine va_put (D := D) (ci := 2) (v := .int (nI (bw + ((2 + (zr_G (l_ - 2))) + (zr_G d_))))) (ty := .int) (C := RX2) (T := TX2) (N := 11) hx hb hts ziX2_countMatch_2 tyX2 tyX2_ok nmX2 hown hK hP (zk_D hD rfl) hS 0 rfl rfl 5 (by decide) f28 (fun _ h9 => h9) rfl (by decide +kernel) rfl rfl (Nat.le_of_ble_eq_true rfl) dX2_countMatch_85 (fun H locs hP _ hS => ?_)
        have hP : va_P D vwCl [(r_, .inr (2, [.ref ra, .ref rb, .ref rd, .int (nI ct), .int (nI (pb + ((2 + (zr_G (l_ - 2))) + (zr_G d_)))), .int (nI (bw + ((2 + (zr_G (l_ - 2))) + (zr_G d_)))), .int (nI rc), .int (nI to), .int (nI la), .int (nI se), .int (nI th)]))] H := hP
        refine lv_aload_n hx hb dX2_countMatch_88 rfl (lv_at hl 2 rfl) ?_
        refine lv_iload_n hx hb dX2_countMatch_89 rfl (lv_at hl 4 rfl) ?_
        refine zk_wrV (As := [.int (nI d_)]) (rest := []) ⟨hx, hb, hml, hown, hts⟩ hN (c_remember l D cI cZ cR r_ ra rb rd ct (pb + ((2 + (zr_G (l_ - 2))) + (zr_G d_))) (bw + ((2 + (zr_G (l_ - 2))) + (zr_G d_))) rc to la se th d_ (by omega) (by omega) (by omega) (by omega)) (cwV 1 hts gX2_countMatch_X2_remember rfl rfl rfl (by decide +kernel) ⟨Nat.le_of_ble_eq_true rfl, Nat.le_of_ble_eq_true rfl⟩) hK hP (zk_D hD rfl) hS hA [0] rfl (by decide) (fun _ => rfl) rfl rfl rfl rfl hl.1 rfl (Nat.le_of_ble_eq_true rfl) dX2_countMatch_90 ⟨Nat.zero_le _, Nat.zero_le _⟩ (fun u H locs hu hP hS => ?_)
        obtain ⟨la9, se9, th9⟩ := u
        have hu : zr_rem d_ la se th = (la9, se9, th9) := hu
        have hP : va_P D vwCl [(r_, .inr (2, [.ref ra, .ref rb, .ref rd, .int (nI ct), .int (nI (pb + ((2 + (zr_G (l_ - 2))) + (zr_G d_)))), .int (nI (bw + ((2 + (zr_G (l_ - 2))) + (zr_G d_)))), .int (nI rc), .int (nI to), .int (nI la9), .int (nI se9), .int (nI th9)]))] H := hP
        exact hret _ ls _ _ ((pb + ((2 + (zr_G (l_ - 2))) + (zr_G d_))), (bw + ((2 + (zr_G (l_ - 2))) + (zr_G d_))), rc, la9, se9, th9) dX2_countMatch_93 (by rw [zr_cm, if_neg (by omega), hu]) hP hS
      · skip
        refine lv_aload_n hx hb dX2_countMatch_52 rfl (lv_at hl 2 rfl) ?_
        refine lv_dup hx hb dX2_countMatch_53 rfl ?_
        refine va_get (D := D) (ci := 2) (v := .int (nI rc)) (C := RX2) (T := TX2) (N := 11) hx hb hts ziX2_countMatch_2 hown hK hP 0 rfl rfl 6 (by decide) f31 (fun _ h9 => h9) rfl dX2_countMatch_54 ?_
        refine lv_iconst (v := (nI 1)) hx hb dX2_countMatch_57 (by decide +kernel) ?_
        refine zk_add (v := rc + 1) hx hb (rfl) dX2_countMatch_58 ?_
        refine va_put (D := D) (ci := 2) (v := .int (nI (rc + 1))) (ty := .int) (C := RX2) (T := TX2) (N := 11) hx hb hts ziX2_countMatch_2 tyX2 tyX2_ok nmX2 hown hK hP (zk_D hD rfl) hS 0 rfl rfl 6 (by decide) f31 (fun _ h9 => h9) rfl (by decide +kernel) rfl rfl (Nat.le_of_ble_eq_true rfl) dX2_countMatch_59 (fun H locs hP _ hS => ?_)
        have hP : va_P D vwCl [(r_, .inr (2, [.ref ra, .ref rb, .ref rd, .int (nI ct), .int (nI (pb + ((2 + (zr_G (l_ - 2))) + (zr_G d_)))), .int (nI bw), .int (nI (rc + 1)), .int (nI to), .int (nI la), .int (nI se), .int (nI th)]))] H := hP
        refine lv_aload_n hx hb dX2_countMatch_62 rfl (lv_at hl 2 rfl) ?_
        refine lv_dup hx hb dX2_countMatch_63 rfl ?_
        refine va_get (D := D) (ci := 2) (v := .int (nI bw)) (C := RX2) (T := TX2) (N := 11) hx hb hts ziX2_countMatch_2 hown hK hP 0 rfl rfl 5 (by decide) f28 (fun _ h9 => h9) rfl dX2_countMatch_64 ?_
        refine lv_iconst (v := (nI 4)) hx hb dX2_countMatch_67 (by decide +kernel) ?_
        refine lv_iload_n hx hb dX2_countMatch_68 rfl (lv_at hl 1 rfl) ?_
        refine zk_add (v := 4 + (zr_G (l_ - 2))) hx hb (rfl) dX2_countMatch_69 ?_
        refine zk_add (v := bw + (4 + (zr_G (l_ - 2)))) hx hb (rfl) dX2_countMatch_70 ?_
        refine va_put (D := D) (ci := 2) (v := .int (nI (bw + (4 + (zr_G (l_ - 2)))))) (ty := .int) (C := RX2) (T := TX2) (N := 11) hx hb hts ziX2_countMatch_2 tyX2 tyX2_ok nmX2 hown hK hP (zk_D hD rfl) hS 0 rfl rfl 5 (by decide) f28 (fun _ h9 => h9) rfl (by decide +kernel) rfl rfl (Nat.le_of_ble_eq_true rfl) dX2_countMatch_71 (fun H locs hP _ hS => ?_)
        have hP : va_P D vwCl [(r_, .inr (2, [.ref ra, .ref rb, .ref rd, .int (nI ct), .int (nI (pb + ((2 + (zr_G (l_ - 2))) + (zr_G d_)))), .int (nI (bw + (4 + (zr_G (l_ - 2))))), .int (nI (rc + 1)), .int (nI to), .int (nI la), .int (nI se), .int (nI th)]))] H := hP
        refine lv_goto (tgt := 88) hx hb dX2_countMatch_74 (by decide) ?_
        refine lv_aload_n hx hb dX2_countMatch_88 rfl (lv_at hl 2 rfl) ?_
        refine lv_iload_n hx hb dX2_countMatch_89 rfl (lv_at hl 4 rfl) ?_
        refine zk_wrV (As := [.int (nI d_)]) (rest := []) ⟨hx, hb, hml, hown, hts⟩ hN (c_remember l D cI cZ cR r_ ra rb rd ct (pb + ((2 + (zr_G (l_ - 2))) + (zr_G d_))) (bw + (4 + (zr_G (l_ - 2)))) (rc + 1) to la se th d_ (by omega) (by omega) (by omega) (by omega)) (cwV 1 hts gX2_countMatch_X2_remember rfl rfl rfl (by decide +kernel) ⟨Nat.le_of_ble_eq_true rfl, Nat.le_of_ble_eq_true rfl⟩) hK hP (zk_D hD rfl) hS hA [0] rfl (by decide) (fun _ => rfl) rfl rfl rfl rfl hl.1 rfl (Nat.le_of_ble_eq_true rfl) dX2_countMatch_90 ⟨Nat.zero_le _, Nat.zero_le _⟩ (fun u H locs hu hP hS => ?_)
        obtain ⟨la9, se9, th9⟩ := u
        have hu : zr_rem d_ la se th = (la9, se9, th9) := hu
        have hP : va_P D vwCl [(r_, .inr (2, [.ref ra, .ref rb, .ref rd, .int (nI ct), .int (nI (pb + ((2 + (zr_G (l_ - 2))) + (zr_G d_)))), .int (nI (bw + (4 + (zr_G (l_ - 2))))), .int (nI (rc + 1)), .int (nI to), .int (nI la9), .int (nI se9), .int (nI th9)]))] H := hP
        exact hret _ ls _ _ ((pb + ((2 + (zr_G (l_ - 2))) + (zr_G d_))), (bw + (4 + (zr_G (l_ - 2)))), (rc + 1), la9, se9, th9) dX2_countMatch_93 (by rw [zr_cm, if_pos (Or.inr (Or.inr c_3)), hu]) hP hS
def rmX2_put : Room := { frames := 2, cells := 0, slots := 0, locals := 46 }
set_option maxRecDepth 20000 in
theorem ziX2_put_2 : ∀ w ∈ wsX20, w ∈ wsX2_put := by decide +kernel
set_option maxHeartbeats 4000000 in
set_option maxRecDepth 100000 in
/-- Row.put -/
theorem c_rput (l : Launch) (D : va_G) (cI cZ cR : ClassId) (r_ : Nat) (ra : Nat) (rb : Nat) (rd : Nat) (ct : Nat) (pb : Nat) (bw : Nat) (rc : Nat) (to : Nat) (la : Nat) (se : Nat) (th : Nat) (pl : Nat → Nat) (ln : Nat → Nat) (ds : Nat → Nat) (p_ : Nat) (l_ : Nat) (d_ : Nat) (h0 : ct < 300) (h1 : d_ = 0 ∨ 2 ≤ l_) (h2 : l_ ≤ 300) (h3 : d_ ≤ 300) (h4 : la ≤ 300) (h5 : se ≤ 300) (h6 : th ≤ 300) : zk_Wv l yX2_put wsX2_put rmX2_put D (zk_t cI cZ cR) [.ref r_, .int (nI p_), .int (nI l_), .int (nI d_)] [(r_, .inr (2, [.ref ra, .ref rb, .ref rd, .int (nI ct), .int (nI pb), .int (nI bw), .int (nI rc), .int (nI to), .int (nI la), .int (nI se), .int (nI th)])), (ra, zk_a cI 300 pl), (rb, zk_a cI 300 ln), (rd, zk_a cI 300 ds)] (fun u : Nat × Nat × Nat × Nat × Nat × Nat => match u with | (pb2, bw2, rc2, la2, se2, th2) => zr_pc l_ d_ pb bw rc la se th = (pb2, bw2, rc2, la2, se2, th2)) (fun u => match u with | (pb2, bw2, rc2, la2, se2, th2) => [(r_, .inr (2, [.ref ra, .ref rb, .ref rd, .int (nI (ct + 1)), .int (nI pb2), .int (nI bw2), .int (nI rc2), .int (nI to), .int (nI la2), .int (nI se2), .int (nI th2)])), (ra, zk_a cI 300 (zk_up pl ct p_)), (rb, zk_a cI 300 (zk_up ln ct l_)), (rd, zk_a cI 300 (zk_up ds ct d_))]) := by
  refine zk_enterV RX2 cX2_put 4 (by decide) rfl rfl (Nat.le_of_ble_eq_true rfl) ?_
  intro p e s m args below meth c ls A Q hx hb hml hown hts hP hK hD hN hl hA hS hret
  have hl : lv_has ls 4 [(0, .ref r_), (1, .int (nI p_)), (2, .int (nI l_)), (3, .int (nI d_))] := hl
  have f9 := hts (.fieldLink RX2 9 "MatchFinders$Row" "places" "[I") (by decide +kernel)
  have f15 := hts (.fieldLink RX2 15 "MatchFinders$Row" "lengths" "[I") (by decide +kernel)
  have f18 := hts (.fieldLink RX2 18 "MatchFinders$Row" "distances" "[I") (by decide +kernel)
  have f21 := hts (.fieldLink RX2 21 "MatchFinders$Row" "count" "I") (by decide +kernel)
  have f25 := hts (.fieldLink RX2 25 "MatchFinders$Row" "plainBits" "I") (by decide +kernel)
  have f28 := hts (.fieldLink RX2 28 "MatchFinders$Row" "bitsWithRepeats" "I") (by decide +kernel)
  refine lv_aload_n hx hb dX2_put_0 rfl (lv_at hl 0 rfl) ?_
  refine va_get (D := D) (ci := 2) (v := .int (nI ct)) (C := RX2) (T := TX2) (N := 11) hx hb hts ziX2_put_2 hown hK hP 0 rfl rfl 3 (by decide) f21 (fun _ h9 => h9) rfl dX2_put_1 ?_
  refine lv_sipush (v := (nI 300)) hx hb dX2_put_4 (by decide +kernel) ?_
  refine zk_icmp_lt (tgt := 11) hx hb (by omega) (by omega) dX2_put_7 (by decide) (fun c_1 => ?_) (fun c_1 => absurd c_1 (by omega))
  refine lv_aload_n hx hb dX2_put_11 rfl (lv_at hl 0 rfl) ?_
  refine va_get (D := D) (ci := 2) (v := .ref ra) (C := RX2) (T := TX2) (N := 11) hx hb hts ziX2_put_2 hown hK hP 0 rfl rfl 0 (by decide) f9 (fun _ h9 => h9) rfl dX2_put_12 ?_
  refine lv_aload_n hx hb dX2_put_15 rfl (lv_at hl 0 rfl) ?_
  refine va_get (D := D) (ci := 2) (v := .int (nI ct)) (C := RX2) (T := TX2) (N := 11) hx hb hts ziX2_put_2 hown hK hP 0 rfl rfl 3 (by decide) f21 (fun _ h9 => h9) rfl dX2_put_16 ?_
  refine lv_iload_n hx hb dX2_put_19 rfl (lv_at hl 1 rfl) ?_
  refine zk_ist (i := ct) (x := p_) (g := pl) hx hb hK hP (zk_D hD rfl) hS 1 0 rfl rfl (by omega) (by decide) dX2_put_20 (fun H locs hP hS => ?_)
  have hP : va_P D vwCl [(r_, .inr (2, [.ref ra, .ref rb, .ref rd, .int (nI ct), .int (nI pb), .int (nI bw), .int (nI rc), .int (nI to), .int (nI la), .int (nI se), .int (nI th)])), (ra, zk_a cI 300 (zk_up pl ct p_)), (rb, zk_a cI 300 ln), (rd, zk_a cI 300 ds)] H := hP
  refine lv_aload_n hx hb dX2_put_21 rfl (lv_at hl 0 rfl) ?_
  refine va_get (D := D) (ci := 2) (v := .ref rb) (C := RX2) (T := TX2) (N := 11) hx hb hts ziX2_put_2 hown hK hP 0 rfl rfl 1 (by decide) f15 (fun _ h9 => h9) rfl dX2_put_22 ?_
  refine lv_aload_n hx hb dX2_put_25 rfl (lv_at hl 0 rfl) ?_
  refine va_get (D := D) (ci := 2) (v := .int (nI ct)) (C := RX2) (T := TX2) (N := 11) hx hb hts ziX2_put_2 hown hK hP 0 rfl rfl 3 (by decide) f21 (fun _ h9 => h9) rfl dX2_put_26 ?_
  refine lv_iload_n hx hb dX2_put_29 rfl (lv_at hl 2 rfl) ?_
  refine zk_ist (i := ct) (x := l_) (g := ln) hx hb hK hP (zk_D hD rfl) hS 2 0 rfl rfl (by omega) (by decide) dX2_put_30 (fun H locs hP hS => ?_)
  have hP : va_P D vwCl [(r_, .inr (2, [.ref ra, .ref rb, .ref rd, .int (nI ct), .int (nI pb), .int (nI bw), .int (nI rc), .int (nI to), .int (nI la), .int (nI se), .int (nI th)])), (ra, zk_a cI 300 (zk_up pl ct p_)), (rb, zk_a cI 300 (zk_up ln ct l_)), (rd, zk_a cI 300 ds)] H := hP
  refine lv_aload_n hx hb dX2_put_31 rfl (lv_at hl 0 rfl) ?_
  refine va_get (D := D) (ci := 2) (v := .ref rd) (C := RX2) (T := TX2) (N := 11) hx hb hts ziX2_put_2 hown hK hP 0 rfl rfl 2 (by decide) f18 (fun _ h9 => h9) rfl dX2_put_32 ?_
  refine lv_aload_n hx hb dX2_put_35 rfl (lv_at hl 0 rfl) ?_
  refine va_get (D := D) (ci := 2) (v := .int (nI ct)) (C := RX2) (T := TX2) (N := 11) hx hb hts ziX2_put_2 hown hK hP 0 rfl rfl 3 (by decide) f21 (fun _ h9 => h9) rfl dX2_put_36 ?_
  refine lv_iload_n hx hb dX2_put_39 rfl (lv_at hl 3 rfl) ?_
  refine zk_ist (i := ct) (x := d_) (g := ds) hx hb hK hP (zk_D hD rfl) hS 3 0 rfl rfl (by omega) (by decide) dX2_put_40 (fun H locs hP hS => ?_)
  have hP : va_P D vwCl [(r_, .inr (2, [.ref ra, .ref rb, .ref rd, .int (nI ct), .int (nI pb), .int (nI bw), .int (nI rc), .int (nI to), .int (nI la), .int (nI se), .int (nI th)])), (ra, zk_a cI 300 (zk_up pl ct p_)), (rb, zk_a cI 300 (zk_up ln ct l_)), (rd, zk_a cI 300 (zk_up ds ct d_))] H := hP
  refine lv_aload_n hx hb dX2_put_41 rfl (lv_at hl 0 rfl) ?_
  refine lv_dup hx hb dX2_put_42 rfl ?_
  refine va_get (D := D) (ci := 2) (v := .int (nI ct)) (C := RX2) (T := TX2) (N := 11) hx hb hts ziX2_put_2 hown hK hP 0 rfl rfl 3 (by decide) f21 (fun _ h9 => h9) rfl dX2_put_43 ?_
  refine lv_iconst (v := (nI 1)) hx hb dX2_put_46 (by decide +kernel) ?_
  refine zk_add (v := ct + 1) hx hb (rfl) dX2_put_47 ?_
  refine va_put (D := D) (ci := 2) (v := .int (nI (ct + 1))) (ty := .int) (C := RX2) (T := TX2) (N := 11) hx hb hts ziX2_put_2 tyX2 tyX2_ok nmX2 hown hK hP (zk_D hD rfl) hS 0 rfl rfl 3 (by decide) f21 (fun _ h9 => h9) rfl (by decide +kernel) rfl rfl (Nat.le_of_ble_eq_true rfl) dX2_put_48 (fun H locs hP _ hS => ?_)
  have hP : va_P D vwCl [(r_, .inr (2, [.ref ra, .ref rb, .ref rd, .int (nI (ct + 1)), .int (nI pb), .int (nI bw), .int (nI rc), .int (nI to), .int (nI la), .int (nI se), .int (nI th)])), (ra, zk_a cI 300 (zk_up pl ct p_)), (rb, zk_a cI 300 (zk_up ln ct l_)), (rd, zk_a cI 300 (zk_up ds ct d_))] H := hP
  refine lv_iload_n hx hb dX2_put_51 rfl (lv_at hl 3 rfl) ?_
  refine zk_if_ne (tgt := 80) hx hb (by omega) dX2_put_52 (by decide) (fun c_2 => ?_) (fun c_2 => ?_)
  · skip
    refine lv_aload_n hx hb dX2_put_80 rfl (lv_at hl 0 rfl) ?_
    refine lv_iload_n hx hb dX2_put_81 rfl (lv_at hl 2 rfl) ?_
    refine lv_iload_n hx hb dX2_put_82 rfl (lv_at hl 3 rfl) ?_
    refine zk_wrV (As := [.int (nI l_), .int (nI d_)]) (rest := []) ⟨hx, hb, hml, hown, hts⟩ hN (c_countMatch l D cI cZ cR r_ ra rb rd (ct + 1) pb bw rc to la se th l_ d_ (by omega) (by omega) (by omega) (by omega) (by omega) (by omega)) (cwV 2 hts gX2_put_X2_countMatch rfl rfl rfl (by decide +kernel) ⟨Nat.le_of_ble_eq_true rfl, Nat.le_of_ble_eq_true rfl⟩) hK hP (zk_D hD rfl) hS hA [0] rfl (by decide) (fun _ => rfl) rfl rfl rfl rfl hl.1 rfl (Nat.le_of_ble_eq_true rfl) dX2_put_83 ⟨Nat.zero_le _, Nat.zero_le _⟩ (fun u H locs hu hP hS => ?_)
    obtain ⟨pb9, bw9, rc9, la9, se9, th9⟩ := u
    have hu : zr_cm l_ d_ pb bw rc la se th = (pb9, bw9, rc9, la9, se9, th9) := hu
    have hP : va_P D vwCl [(r_, .inr (2, [.ref ra, .ref rb, .ref rd, .int (nI (ct + 1)), .int (nI pb9), .int (nI bw9), .int (nI rc9), .int (nI to), .int (nI la9), .int (nI se9), .int (nI th9)])), (ra, zk_a cI 300 (zk_up pl ct p_)), (rb, zk_a cI 300 (zk_up ln ct l_)), (rd, zk_a cI 300 (zk_up ds ct d_))] H := hP
    exact hret _ ls _ _ (pb9, bw9, rc9, la9, se9, th9) dX2_put_86 (by rw [zr_pc, if_neg (by omega)]; exact hu) hP hS
  · skip
    refine lv_aload_n hx hb dX2_put_55 rfl (lv_at hl 0 rfl) ?_
    refine lv_dup hx hb dX2_put_56 rfl ?_
    refine va_get (D := D) (ci := 2) (v := .int (nI pb)) (C := RX2) (T := TX2) (N := 11) hx hb hts ziX2_put_2 hown hK hP 0 rfl rfl 4 (by decide) f25 (fun _ h9 => h9) rfl dX2_put_57 ?_
    refine lv_bipush (v := (nI 9)) hx hb dX2_put_60 (by decide +kernel) ?_
    refine zk_add (v := pb + 9) hx hb (rfl) dX2_put_62 ?_
    refine va_put (D := D) (ci := 2) (v := .int (nI (pb + 9))) (ty := .int) (C := RX2) (T := TX2) (N := 11) hx hb hts ziX2_put_2 tyX2 tyX2_ok nmX2 hown hK hP (zk_D hD rfl) hS 0 rfl rfl 4 (by decide) f25 (fun _ h9 => h9) rfl (by decide +kernel) rfl rfl (Nat.le_of_ble_eq_true rfl) dX2_put_63 (fun H locs hP _ hS => ?_)
    have hP : va_P D vwCl [(r_, .inr (2, [.ref ra, .ref rb, .ref rd, .int (nI (ct + 1)), .int (nI (pb + 9)), .int (nI bw), .int (nI rc), .int (nI to), .int (nI la), .int (nI se), .int (nI th)])), (ra, zk_a cI 300 (zk_up pl ct p_)), (rb, zk_a cI 300 (zk_up ln ct l_)), (rd, zk_a cI 300 (zk_up ds ct d_))] H := hP
    refine lv_aload_n hx hb dX2_put_66 rfl (lv_at hl 0 rfl) ?_
    refine lv_dup hx hb dX2_put_67 rfl ?_
    refine va_get (D := D) (ci := 2) (v := .int (nI bw)) (C := RX2) (T := TX2) (N := 11) hx hb hts ziX2_put_2 hown hK hP 0 rfl rfl 5 (by decide) f28 (fun _ h9 => h9) rfl dX2_put_68 ?_
    refine lv_bipush (v := (nI 9)) hx hb dX2_put_71 (by decide +kernel) ?_
    refine zk_add (v := bw + 9) hx hb (rfl) dX2_put_73 ?_
    refine va_put (D := D) (ci := 2) (v := .int (nI (bw + 9))) (ty := .int) (C := RX2) (T := TX2) (N := 11) hx hb hts ziX2_put_2 tyX2 tyX2_ok nmX2 hown hK hP (zk_D hD rfl) hS 0 rfl rfl 5 (by decide) f28 (fun _ h9 => h9) rfl (by decide +kernel) rfl rfl (Nat.le_of_ble_eq_true rfl) dX2_put_74 (fun H locs hP _ hS => ?_)
    have hP : va_P D vwCl [(r_, .inr (2, [.ref ra, .ref rb, .ref rd, .int (nI (ct + 1)), .int (nI (pb + 9)), .int (nI (bw + 9)), .int (nI rc), .int (nI to), .int (nI la), .int (nI se), .int (nI th)])), (ra, zk_a cI 300 (zk_up pl ct p_)), (rb, zk_a cI 300 (zk_up ln ct l_)), (rd, zk_a cI 300 (zk_up ds ct d_))] H := hP
    refine lv_goto (tgt := 86) hx hb dX2_put_77 (by decide) ?_
    exact hret _ ls _ _ (pb + 9, bw + 9, rc, la, se, th) dX2_put_86 (by rw [zr_pc, if_pos c_2]) hP hS
