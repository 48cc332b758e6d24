/-! The law's loop. -/
theorem lw_and (x : Int32) : ∃ k : Nat, k < 16 ∧ x &&& nI 15 = nI k := by
  refine ⟨x.toBitVec.toNat % 16, Nat.mod_lt _ (by decide), ?_⟩
  apply Int32.toBitVec_inj.mp
  rw [Int32.toBitVec_and]
  apply BitVec.eq_of_toNat_eq
  rw [BitVec.toNat_and]
  show x.toBitVec.toNat &&& 15 = (BitVec.ofNat 32 (x.toBitVec.toNat % 16)).toNat
  rw [BitVec.toNat_ofNat, show (15 : Nat) = 2 ^ 4 - 1 from rfl, Nat.and_two_pow_sub_one_eq_mod]
  omega
theorem lw_le {i LL : Nat} (hi : i ≤ LL + 3) (hL : LL ≤ 2050) (h : ¬ Int32.ofNat LL - nI 4 < nI i) : i + 4 ≤ LL := by
  have e : (Int32.ofNat LL - nI 4).toInt = (LL : Int) - 4 := by
    rw [Int32.toInt_sub, show (Int32.ofNat LL).toInt = (LL : Int) from nI_toInt (n := LL) (by omega), nI_toInt (by decide), Int.bmod_def]
    omega
  rw [Int32.lt_iff_toInt_lt, e, nI_toInt (by omega)] at h
  omega
set_option maxHeartbeats 4000000 in
set_option maxRecDepth 100000 in
theorem lw_loop {l : Launch} {p : Program} {e : Env} {s : State} {m : MethodId} {args : Array Value} {below : List Frame} {meth : Method} {c : Code} {A : Nat → Prop} {b0 LL : Nat} {xs : Nat → Int32} {D : va_G} {cI cZ cR cL : ClassId} {sa : Nat} {Q : State → Prop} (hC : lw_Ctx l p e s m args below meth c A b0 LL xs D cI cZ cR cL sa Q) (hfin : ∀ (ls : Array Slot) (H : Heap) (locs : List Loc) (kc ks : Nat), kc ≤ 3000 → ks ≤ 25000 → va_S A s.heap H locs → W p l e room_1 s m args below meth c H locs kc ks Q (F0 m 599 ls [])) :
    ∀ (n i kc ks : Nat), i ≤ LL + 3 → kc ≤ 40 + i → ks ≤ 9400 + 6 * i → LL + 4 ≤ i + n → lw_K l p e s m args below meth c A b0 LL xs D cI cZ cR cL sa Q i kc ks := by
  intro n
  induction n with
  | zero => intro i kc ks q1 q2 q3 q4; exact absurd q4 (by omega)
  | succ n ih =>
    intro i kc ks q1 q2 q3 q4
    intro x_ q_ t f k_ rf sp dp fa fb b ka kb kd r ra rb rd fl fd fc le di g ah sz co pn pd ct pb bw rc to la se th pl ln ds m_ tw mb mi mp m1 m2 m3 mc ml bl bd rp B im pc P1 P2 P3 C L oo o ls H locs h0 h1 h2 h3 h4 h5 h6 h7 h8 h9 hP hD hS hl
    obtain ⟨hx, hb, hml, hown, hts, hX, hbl, hbA, hA, hK, hKL, hN, hE, hst, hLL⟩ := id hC
    refine lv_iload hx hb dL_law_43 (lv_at hl 4 rfl) ?_
    refine lv_aload_n hx hb dL_law_45 rfl (lv_at hl 0 rfl) ?_
    refine va_slen hx hb hX hbl hbA hS dL_law_46 ?_
    refine lv_iconst (v := nI 4) hx hb dL_law_47 (by decide +kernel) ?_
    refine lv_isub hx hb dL_law_48 ?_
    refine lv_icmp_gt (tgt := 599) hx hb dL_law_49 (by decide) (fun h => hfin ls H locs kc ks (by omega) (by omega) hS) (fun h => ?_)
    have hi : i + 4 ≤ LL := lw_le q1 hLL h
    have hroom : kc + 1 ≤ room_1.cells ∧ ks + 6 ≤ room_1.slots := ⟨by show kc + 1 ≤ 601024; omega, by show ks + 6 ≤ 7293000; omega⟩
    have kn := ih (i + 4) (kc + 1) (ks + 6) (by omega) (by omega) (by omega) (by omega)
    refine lv_aload_n hx hb dL_law_52 rfl (lv_at hl 0 rfl) ?_
    refine lv_iload hx hb dL_law_53 (lv_at hl 4 rfl) ?_
    refine zk_sl hx hb hX hbl hbA hS (i := i) (by omega) (by omega) dL_law_55 ?_
    refine lv_bipush (v := nI 15) hx hb dL_law_56 (by decide +kernel) ?_
    refine lv_iand hx hb dL_law_58 ?_
    obtain ⟨k, hk16, hke⟩ := lw_and (xs i)
    refine zk_top hke ?_
    clear hke
    rcases (show k = 0 ∨ k = 1 ∨ k = 2 ∨ k = 3 ∨ k = 4 ∨ k = 5 ∨ k = 6 ∨ k = 7 ∨ k = 8 ∨ k = 9 ∨ k = 10 ∨ k = 11 ∨ k = 12 ∨ k = 13 ∨ k = 14 ∨ k = 15 by omega) with rfl | rfl | rfl | rfl | rfl | rfl | rfl | rfl | rfl | rfl | rfl | rfl | rfl | rfl | rfl | rfl
    · refine lv_tableIn (tgt := 128) (off := 69) hx hb dL_law_59 (by decide +kernel) (by decide +kernel) (by decide +kernel) (by decide) ?_
      exact lc_add hC hi hroom kn x_ q_ t f k_ rf sp dp fa fb b ka kb kd r ra rb rd fl fd fc le di g ah sz co pn pd ct pb bw rc to la se th pl ln ds m_ tw mb mi mp m1 m2 m3 mc ml bl bd rp B im pc P1 P2 P3 C L oo o ls H locs h0 h1 h2 h3 h4 h5 h6 h7 h8 h9 hP hD hS hl
    · refine lv_tableIn (tgt := 153) (off := 94) hx hb dL_law_59 (by decide +kernel) (by decide +kernel) (by decide +kernel) (by decide) ?_
      exact lc_fill hC hi hroom kn x_ q_ t f k_ rf sp dp fa fb b ka kb kd r ra rb rd fl fd fc le di g ah sz co pn pd ct pb bw rc to la se th pl ln ds m_ tw mb mi mp m1 m2 m3 mc ml bl bd rp B im pc P1 P2 P3 C L oo o ls H locs h0 h1 h2 h3 h4 h5 h6 h7 h8 h9 hP hD hS hl
    · refine lv_tableIn (tgt := 202) (off := 143) hx hb dL_law_59 (by decide +kernel) (by decide +kernel) (by decide +kernel) (by decide) ?_
      exact lc_clear hC hi hroom kn x_ q_ t f k_ rf sp dp fa fb b ka kb kd r ra rb rd fl fd fc le di g ah sz co pn pd ct pb bw rc to la se th pl ln ds m_ tw mb mi mp m1 m2 m3 mc ml bl bd rp B im pc P1 P2 P3 C L oo o ls H locs h0 h1 h2 h3 h4 h5 h6 h7 h8 h9 hP hD hS hl
    · refine lv_tableIn (tgt := 215) (off := 156) hx hb dL_law_59 (by decide +kernel) (by decide +kernel) (by decide +kernel) (by decide) ?_
      exact lc_dictionary hC hi hroom kn x_ q_ t f k_ rf sp dp fa fb b ka kb kd r ra rb rd fl fd fc le di g ah sz co pn pd ct pb bw rc to la se th pl ln ds m_ tw mb mi mp m1 m2 m3 mc ml bl bd rp B im pc P1 P2 P3 C L oo o ls H locs h0 h1 h2 h3 h4 h5 h6 h7 h8 h9 hP hD hS hl
    · refine lv_tableIn (tgt := 228) (off := 169) hx hb dL_law_59 (by decide +kernel) (by decide +kernel) (by decide +kernel) (by decide) ?_
      exact lc_size hC hi hroom kn x_ q_ t f k_ rf sp dp fa fb b ka kb kd r ra rb rd fl fd fc le di g ah sz co pn pd ct pb bw rc to la se th pl ln ds m_ tw mb mi mp m1 m2 m3 mc ml bl bd rp B im pc P1 P2 P3 C L oo o ls H locs h0 h1 h2 h3 h4 h5 h6 h7 h8 h9 hP hD hS hl
    · refine lv_tableIn (tgt := 253) (off := 194) hx hb dL_law_59 (by decide +kernel) (by decide +kernel) (by decide +kernel) (by decide) ?_
      exact lc_octet hC hi hroom kn x_ q_ t f k_ rf sp dp fa fb b ka kb kd r ra rb rd fl fd fc le di g ah sz co pn pd ct pb bw rc to la se th pl ln ds m_ tw mb mi mp m1 m2 m3 mc ml bl bd rp B im pc P1 P2 P3 C L oo o ls H locs h0 h1 h2 h3 h4 h5 h6 h7 h8 h9 hP hD hS hl
    · refine lv_tableIn (tgt := 278) (off := 219) hx hb dL_law_59 (by decide +kernel) (by decide +kernel) (by decide +kernel) (by decide) ?_
      exact lc_longest hC hi hroom kn x_ q_ t f k_ rf sp dp fa fb b ka kb kd r ra rb rd fl fd fc le di g ah sz co pn pd ct pb bw rc to la se th pl ln ds m_ tw mb mi mp m1 m2 m3 mc ml bl bd rp B im pc P1 P2 P3 C L oo o ls H locs h0 h1 h2 h3 h4 h5 h6 h7 h8 h9 hP hD hS hl
    · refine lv_tableIn (tgt := 315) (off := 256) hx hb dL_law_59 (by decide +kernel) (by decide +kernel) (by decide +kernel) (by decide) ?_
      exact lc_chained hC hi hroom kn x_ q_ t f k_ rf sp dp fa fb b ka kb kd r ra rb rd fl fd fc le di g ah sz co pn pd ct pb bw rc to la se th pl ln ds m_ tw mb mi mp m1 m2 m3 mc ml bl bd rp B im pc P1 P2 P3 C L oo o ls H locs h0 h1 h2 h3 h4 h5 h6 h7 h8 h9 hP hD hS hl
    · refine lv_tableIn (tgt := 352) (off := 293) hx hb dL_law_59 (by decide +kernel) (by decide +kernel) (by decide +kernel) (by decide) ?_
      exact lc_front hC hi hroom kn x_ q_ t f k_ rf sp dp fa fb b ka kb kd r ra rb rd fl fd fc le di g ah sz co pn pd ct pb bw rc to la se th pl ln ds m_ tw mb mi mp m1 m2 m3 mc ml bl bd rp B im pc P1 P2 P3 C L oo o ls H locs h0 h1 h2 h3 h4 h5 h6 h7 h8 h9 hP hD hS hl
    · refine lv_tableIn (tgt := 401) (off := 342) hx hb dL_law_59 (by decide +kernel) (by decide +kernel) (by decide +kernel) (by decide) ?_
      exact lc_pieces hC hi hroom kn x_ q_ t f k_ rf sp dp fa fb b ka kb kd r ra rb rd fl fd fc le di g ah sz co pn pd ct pb bw rc to la se th pl ln ds m_ tw mb mi mp m1 m2 m3 mc ml bl bd rp B im pc P1 P2 P3 C L oo o ls H locs h0 h1 h2 h3 h4 h5 h6 h7 h8 h9 hP hD hS hl
    · refine lv_tableIn (tgt := 426) (off := 367) hx hb dL_law_59 (by decide +kernel) (by decide +kernel) (by decide +kernel) (by decide) ?_
      exact lc_piece hC hi hroom kn x_ q_ t f k_ rf sp dp fa fb b ka kb kd r ra rb rd fl fd fc le di g ah sz co pn pd ct pb bw rc to la se th pl ln ds m_ tw mb mi mp m1 m2 m3 mc ml bl bd rp B im pc P1 P2 P3 C L oo o ls H locs h0 h1 h2 h3 h4 h5 h6 h7 h8 h9 hP hD hS hl
    · refine lv_tableIn (tgt := 475) (off := 416) hx hb dL_law_59 (by decide +kernel) (by decide +kernel) (by decide +kernel) (by decide) ?_
      exact lc_bits hC hi hroom kn x_ q_ t f k_ rf sp dp fa fb b ka kb kd r ra rb rd fl fd fc le di g ah sz co pn pd ct pb bw rc to la se th pl ln ds m_ tw mb mi mp m1 m2 m3 mc ml bl bd rp B im pc P1 P2 P3 C L oo o ls H locs h0 h1 h2 h3 h4 h5 h6 h7 h8 h9 hP hD hS hl
    · refine lv_tableIn (tgt := 512) (off := 453) hx hb dL_law_59 (by decide +kernel) (by decide +kernel) (by decide +kernel) (by decide) ?_
      exact lc_repeats hC hi hroom kn x_ q_ t f k_ rf sp dp fa fb b ka kb kd r ra rb rd fl fd fc le di g ah sz co pn pd ct pb bw rc to la se th pl ln ds m_ tw mb mi mp m1 m2 m3 mc ml bl bd rp B im pc P1 P2 P3 C L oo o ls H locs h0 h1 h2 h3 h4 h5 h6 h7 h8 h9 hP hD hS hl
    · refine lv_tableIn (tgt := 537) (off := 478) hx hb dL_law_59 (by decide +kernel) (by decide +kernel) (by decide +kernel) (by decide) ?_
      exact lc_share hC hi hroom kn x_ q_ t f k_ rf sp dp fa fb b ka kb kd r ra rb rd fl fd fc le di g ah sz co pn pd ct pb bw rc to la se th pl ln ds m_ tw mb mi mp m1 m2 m3 mc ml bl bd rp B im pc P1 P2 P3 C L oo o ls H locs h0 h1 h2 h3 h4 h5 h6 h7 h8 h9 hP hD hS hl
    · refine lv_tableOut (tgt := 593) hx hb dL_law_59 (by decide +kernel) (by decide) ?_
      exact lc_none hC hi hroom kn x_ q_ t f k_ rf sp dp fa fb b ka kb kd r ra rb rd fl fd fc le di g ah sz co pn pd ct pb bw rc to la se th pl ln ds m_ tw mb mi mp m1 m2 m3 mc ml bl bd rp B im pc P1 P2 P3 C L oo o ls H locs h0 h1 h2 h3 h4 h5 h6 h7 h8 h9 hP hD hS hl
    · refine lv_tableOut (tgt := 593) hx hb dL_law_59 (by decide +kernel) (by decide) ?_
      exact lc_none hC hi hroom kn x_ q_ t f k_ rf sp dp fa fb b ka kb kd r ra rb rd fl fd fc le di g ah sz co pn pd ct pb bw rc to la se th pl ln ds m_ tw mb mi mp m1 m2 m3 mc ml bl bd rp B im pc P1 P2 P3 C L oo o ls H locs h0 h1 h2 h3 h4 h5 h6 h7 h8 h9 hP hD hS hl
