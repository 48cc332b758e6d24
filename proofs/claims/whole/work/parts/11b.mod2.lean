def rmX5_makeLeast : Room := { frames := 2, cells := 0, slots := 0, locals := 47 }
set_option maxRecDepth 20000 in
theorem ziX5_makeLeast_5 : ∀ w ∈ wsX50, w ∈ wsX5_makeLeast := by decide +kernel
set_option maxHeartbeats 4000000 in
set_option maxRecDepth 100000 in
/-- makeLeast -/
theorem c_makeLeast (l : Launch) (D : va_G) (cI cZ cR : ClassId) (m_ : Nat) (tw : Nat) (sp : Nat) (dp : Nat) (mb : Nat) (sz : Nat) (ah : Nat) (mi : Nat) (mp : Nat) (m1 : Nat) (m2 : Nat) (m3 : Nat) (mc : Nat) (ml : Nat) (bl : Nat) (bd : Nat) (rp : Nat) (B : Nat → Nat) (pc : Nat → Nat) (P1 : Nat → Nat) (P2 : Nat → Nat) (P3 : Nat → Nat) (C : Nat → Nat) (L : Nat → Nat) (h0 : ah ≤ 60) (h1 : sz ≤ 300) (h2 : sp ≤ 300) (h3 : ∀ j, B j < 256) (h4 : pc 3 = 0) : zk_Wv l yX5_makeLeast wsX5_makeLeast rmX5_makeLeast D (zk_t cI cZ cR) [.ref m_] [(m_, .inr (5, [.int (nI tw), .int (nI sp), .int (nI dp), .ref mb, .int (nI sz), .int (nI ah), .ref mi, .ref mp, .ref m1, .ref m2, .ref m3, .ref mc, .ref ml, .int (nI bl), .int (nI bd), .int (nI rp)])), (mb, zk_a cI 360 B), (mp, zk_a cI 4 pc), (m1, zk_a cI 1200 P1), (m2, zk_a cI 1200 P2), (m3, zk_a cI 1200 P3), (mc, zk_a cI 301 C), (ml, zk_a cI 41 L)] (fun u : (Nat → Nat) × (Nat → Nat) × (Nat → Nat) × (Nat → Nat) × (Nat → Nat) × (Nat → Nat) => match u with | (pc2, Q1, Q2, Q3, C2, L2) => zr_mrow 3 (zr_v B ah) ah sz sp dp (pc2 3) Q1 Q2 Q3 ∧ (∀ i, i ≠ 3 → pc2 i = pc i) ∧ zr_sep 3 P1 Q1 ∧ zr_sep 3 P2 Q2 ∧ zr_sep 3 P3 Q3) (fun u => match u with | (pc2, Q1, Q2, Q3, C2, L2) => [(m_, .inr (5, [.int (nI tw), .int (nI sp), .int (nI dp), .ref mb, .int (nI sz), .int (nI ah), .ref mi, .ref mp, .ref m1, .ref m2, .ref m3, .ref mc, .ref ml, .int (nI bl), .int (nI bd), .int (nI rp)])), (mb, zk_a cI 360 B), (mp, zk_a cI 4 pc2), (m1, zk_a cI 1200 Q1), (m2, zk_a cI 1200 Q2), (m3, zk_a cI 1200 Q3), (mc, zk_a cI 301 C2), (ml, zk_a cI 41 L2)]) := by
  refine zk_enterV RX5 cX5_makeLeast 3 (by decide) rfl rfl (Nat.le_of_ble_eq_true rfl) ?_
  intro p e s m args below meth c ls A Q hx hb hml hown hts hP hK hD hN hl hA hS hret
  have hl : lv_has ls 3 [(0, .ref m_)] := hl
  have f29 := hts (.fieldLink RX5 29 "MatchFindersModel" "cost" "[I") (by decide +kernel)
  have f32 := hts (.fieldLink RX5 32 "MatchFindersModel" "least" "[I") (by decide +kernel)
  have f45 := hts (.fieldLink RX5 45 "MatchFindersModel" "size" "I") (by decide +kernel)
  refine lv_aload_n hx hb dX5_makeLeast_0 rfl (lv_at hl 0 rfl) ?_
  refine va_get (D := D) (ci := 5) (v := .ref mc) (C := RX5) (T := TX5) (N := 16) hx hb hts ziX5_makeLeast_5 hown hK hP 0 rfl rfl 11 (by decide) f29 (fun _ h9 => h9) rfl dX5_makeLeast_1 ?_
  refine lv_aload_n hx hb dX5_makeLeast_4 rfl (lv_at hl 0 rfl) ?_
  refine va_get (D := D) (ci := 5) (v := .int (nI sz)) (C := RX5) (T := TX5) (N := 16) hx hb hts ziX5_makeLeast_5 hown hK hP 0 rfl rfl 4 (by decide) f45 (fun _ h9 => h9) rfl dX5_makeLeast_5 ?_
  refine lv_iconst (v := (nI 0)) hx hb dX5_makeLeast_8 (by decide +kernel) ?_
  refine zk_ist (i := sz) (x := 0) (g := C) hx hb hK hP (zk_D hD rfl) hS 6 0 rfl rfl (by omega) (by decide) dX5_makeLeast_9 (fun H locs hP hS => ?_)
  have hP : va_P D vwCl [(m_, .inr (5, [.int (nI tw), .int (nI sp), .int (nI dp), .ref mb, .int (nI sz), .int (nI ah), .ref mi, .ref mp, .ref m1, .ref m2, .ref m3, .ref mc, .ref ml, .int (nI bl), .int (nI bd), .int (nI rp)])), (mb, zk_a cI 360 B), (mp, zk_a cI 4 pc), (m1, zk_a cI 1200 P1), (m2, zk_a cI 1200 P2), (m3, zk_a cI 1200 P3), (mc, zk_a cI 301 (zk_up C sz 0)), (ml, zk_a cI 41 L)] H := hP
  refine lv_aload_n hx hb dX5_makeLeast_10 rfl (lv_at hl 0 rfl) ?_
  refine va_get (D := D) (ci := 5) (v := .int (nI sz)) (C := RX5) (T := TX5) (N := 16) hx hb hts ziX5_makeLeast_5 hown hK hP 0 rfl rfl 4 (by decide) f45 (fun _ h9 => h9) rfl dX5_makeLeast_11 ?_
  refine lv_iconst (v := (nI 1)) hx hb dX5_makeLeast_14 (by decide +kernel) ?_
  refine lv_isub hx hb dX5_makeLeast_15 ?_
  refine lv_istore_n (lv' := [(1, .int ((nI sz) - (nI 1))), (0, .ref m_)]) hx hb dX5_makeLeast_16 rfl hl (by decide) rfl (fun ls hl => ?_)
  have L17 : ∀ (n : Nat) (q : Nat) (C1 : Nat → Nat) (L1 : Nat → Nat) (ln1 : Nat → Nat) (ds1 : Nat → Nat) (ls : Array Slot) (H : Heap) (locs : List Loc), (q ≤ sz) → (zr_DP (zr_Fp (zr_v B ah) ah sz sp) sz q C1 ln1 ds1) → (q) < n → va_P D vwCl [(m_, .inr (5, [.int (nI tw), .int (nI sp), .int (nI dp), .ref mb, .int (nI sz), .int (nI ah), .ref mi, .ref mp, .ref m1, .ref m2, .ref m3, .ref mc, .ref ml, .int (nI bl), .int (nI bd), .int (nI rp)])), (mb, zk_a cI 360 B), (mp, zk_a cI 4 pc), (m1, zk_a cI 1200 P1), (m2, zk_a cI 1200 P2), (m3, zk_a cI 1200 P3), (mc, zk_a cI 301 C1), (ml, zk_a cI 41 L1)] H → va_S A s.heap H locs → lv_has ls 3 [(0, .ref m_), (1, .int ((nI q) - (nI 1)))] → W p l e rmX5_makeLeast s m args below meth c H locs 0 0 Q (F0 m 17 ls []) := by
    intro n
    induction n with
    | zero => intro q C1 L1 ln1 ds1 ls H locs g17_0 g17_1 hm hP hS hl; exact absurd hm (by omega)
    | succ n ih17 =>
      intro q C1 L1 ln1 ds1 ls H locs g17_0 g17_1 hm hP hS hl
      refine lv_iload_n hx hb dX5_makeLeast_17 rfl (lv_at hl 1 rfl) ?_
      refine lv_if_lt (tgt := 38) hx hb dX5_makeLeast_18 (by decide) (fun c_1 => ?_) (fun c_1 => ?_)
      · skip
        have hq := zk_pr_lt (by omega) c_1
        subst hq
        refine lv_iconst (v := (nI 0)) hx hb dX5_makeLeast_38 (by decide +kernel) ?_
        refine lv_istore_n (lv' := [(1, .int (nI 0)), (0, .ref m_)]) hx hb dX5_makeLeast_39 rfl hl (by decide) rfl (fun ls hl => ?_)
        have L40 : ∀ (n : Nat) (pp : Nat) (pc1 : Nat → Nat) (R1 : Nat → Nat) (R2 : Nat → Nat) (R3 : Nat → Nat) (L5 : Nat → Nat) (P : List (Nat × Nat × Nat)) (ls : Array Slot) (H : Heap) (locs : List Loc), (pp ≤ sz) → (pc1 3 ≤ pp) → (P ++ zr_pcs (fun q => (ln1 q, ds1 q)) sz (sz - pc1 3) pp = zr_pcs (fun q => (ln1 q, ds1 q)) sz sz 0) → (zr_holds P (fun k => R1 (300 * 3 + k)) (fun k => R2 (300 * 3 + k)) (fun k => R3 (300 * 3 + k)) (pc1 3)) → (∀ i, i ≠ 3 → pc1 i = pc i) → (zr_sep 3 P1 R1) → (zr_sep 3 P2 R2) → (zr_sep 3 P3 R3) → (sz - pp) < n → va_P D vwCl [(m_, .inr (5, [.int (nI tw), .int (nI sp), .int (nI dp), .ref mb, .int (nI sz), .int (nI ah), .ref mi, .ref mp, .ref m1, .ref m2, .ref m3, .ref mc, .ref ml, .int (nI bl), .int (nI bd), .int (nI rp)])), (mb, zk_a cI 360 B), (mp, zk_a cI 4 pc1), (m1, zk_a cI 1200 R1), (m2, zk_a cI 1200 R2), (m3, zk_a cI 1200 R3), (mc, zk_a cI 301 C1), (ml, zk_a cI 41 L5)] H → va_S A s.heap H locs → lv_has ls 3 [(0, .ref m_), (1, .int (nI pp))] → W p l e rmX5_makeLeast s m args below meth c H locs 0 0 Q (F0 m 40 ls []) := by
          intro n
          induction n with
          | zero => intro pp pc1 R1 R2 R3 L5 P ls H locs g40_0 g40_1 g40_2 g40_3 g40_4 g40_5 g40_6 g40_7 hm hP hS hl; exact absurd hm (by omega)
          | succ n ih40 =>
            intro pp pc1 R1 R2 R3 L5 P ls H locs g40_0 g40_1 g40_2 g40_3 g40_4 g40_5 g40_6 g40_7 hm hP hS hl
            refine lv_iload_n hx hb dX5_makeLeast_40 rfl (lv_at hl 1 rfl) ?_
            refine lv_aload_n hx hb dX5_makeLeast_41 rfl (lv_at hl 0 rfl) ?_
            refine va_get (D := D) (ci := 5) (v := .int (nI sz)) (C := RX5) (T := TX5) (N := 16) hx hb hts ziX5_makeLeast_5 hown hK hP 0 rfl rfl 4 (by decide) f45 (fun _ h9 => h9) rfl dX5_makeLeast_42 ?_
            refine zk_icmp_ge (tgt := 88) hx hb (by omega) (by omega) dX5_makeLeast_45 (by decide) (fun c_2 => ?_) (fun c_2 => ?_)
            · skip
              exact hret _ ls _ _ (pc1, R1, R2, R3, C1, L5) dX5_makeLeast_88 ⟨⟨_, zr_ok_dp g17_1, by rw [← g40_2, zr_pcs_end (by omega), List.append_nil]; exact g40_3⟩, g40_4, g40_5, g40_6, g40_7⟩ hP hS
            · skip
              refine lv_aload_n hx hb dX5_makeLeast_48 rfl (lv_at hl 0 rfl) ?_
              refine lv_iload_n hx hb dX5_makeLeast_49 rfl (lv_at hl 1 rfl) ?_
              refine zk_wrV (As := [.int (nI pp)]) (rest := []) ⟨hx, hb, hml, hown, hts⟩ hN (c_findLeast l D cI cZ cR m_ tw sp dp mb sz ah mi mp m1 m2 m3 mc ml bl bd rp B L5 pp (by omega) (by omega) (by omega) (by omega) h3) (cwV 1 hts gX5_makeLeast_X5_findLeast rfl rfl rfl (by decide +kernel) ⟨Nat.le_of_ble_eq_true rfl, Nat.le_of_ble_eq_true rfl⟩) hK hP (zk_D hD rfl) hS hA [0, 1, 7] rfl (by decide) (fun _ => rfl) rfl rfl rfl rfl hl.1 rfl (Nat.le_of_ble_eq_true rfl) dX5_makeLeast_50 ⟨Nat.zero_le _, Nat.zero_le _⟩ (fun u H locs hu1 hP hS => ?_)
              obtain ⟨L9, rfl⟩ : ∃ z, z = u := ⟨_, rfl⟩
              have hu1 : ∀ j, 3 ≤ j → j ≤ 40 → L9 j = zr_ls (zr_Fp (zr_v B ah) ah sz sp pp) j := hu1
              have hP : va_P D vwCl [(m_, .inr (5, [.int (nI tw), .int (nI sp), .int (nI dp), .ref mb, .int (nI sz), .int (nI ah), .ref mi, .ref mp, .ref m1, .ref m2, .ref m3, .ref mc, .ref ml, .int (nI bl), .int (nI bd), .int (nI rp)])), (mb, zk_a cI 360 B), (mp, zk_a cI 4 pc1), (m1, zk_a cI 1200 R1), (m2, zk_a cI 1200 R2), (m3, zk_a cI 1200 R3), (mc, zk_a cI 301 C1), (ml, zk_a cI 41 L9)] H := hP
              refine lv_aload_n hx hb dX5_makeLeast_53 rfl (lv_at hl 0 rfl) ?_
              refine lv_iload_n hx hb dX5_makeLeast_54 rfl (lv_at hl 1 rfl) ?_
              have hFm : ∀ j, 3 ≤ j → j ≤ 40 → L9 j ≤ 300 := fun j h8 h9 => by rw [hu1 j h8 h9]; exact zr_ls_300 h2
              have hC1 : C1 (pp + 1) ≤ 2900 := by have h8 := zr_DP_le g17_1 _ (pp + 1) rfl (by omega) (by omega); omega
              have hCj : ∀ j, 3 ≤ j → j ≤ 40 → 0 < L9 j → pp + j ≤ 300 ∧ L9 j ≤ 300 ∧ C1 (pp + j) ≤ 3000 := fun j h8 h9 h7 => by
                rw [hu1 j h8 h9] at h7
                have h6 := zr_ls_sz h7
                have h5 := zr_DP_le g17_1 _ (pp + j) rfl (by omega) (by omega)
                exact ⟨by omega, hFm j h8 h9, by omega⟩
              refine zk_wrI (As := [.int (nI pp)]) (rest := []) ⟨hx, hb, hml, hown, hts⟩ hN (c_mchoose l D cI cZ cR m_ tw sp dp mb sz ah mi mp m1 m2 m3 mc ml bl bd rp C1 L9 pp (by omega) hC1 hCj hFm) (cwV 1 hts gX5_makeLeast_X5_choose rfl rfl rfl (by decide +kernel) ⟨Nat.le_of_ble_eq_true rfl, Nat.le_of_ble_eq_true rfl⟩) hK hP (zk_D hD rfl) hS hA [0, 6, 7] rfl (by decide) (fun _ => rfl) rfl rfl rfl rfl hl.1 rfl (Nat.le_of_ble_eq_true rfl) dX5_makeLeast_55 ⟨Nat.zero_le _, Nat.zero_le _⟩ (fun r u H locs hu2 hP hS => ?_)
              obtain ⟨c9, l9, d9⟩ := u
              have hu2 : r = nI l9 ∧ zr_w C1 pp L9 38 3 (9 + C1 (pp + 1)) 1 0 = (c9, l9, d9) ∧ ((l9 = 1 ∧ d9 = 0) ∨ (3 ≤ l9 ∧ l9 ≤ 40 ∧ d9 = L9 l9)) := hu2
              have hP : va_P D vwCl [(m_, .inr (5, [.int (nI tw), .int (nI sp), .int (nI dp), .ref mb, .int (nI sz), .int (nI ah), .ref mi, .ref mp, .ref m1, .ref m2, .ref m3, .ref mc, .ref ml, .int (nI bl), .int (nI bd), .int (nI rp)])), (mb, zk_a cI 360 B), (mp, zk_a cI 4 pc1), (m1, zk_a cI 1200 R1), (m2, zk_a cI 1200 R2), (m3, zk_a cI 1200 R3), (mc, zk_a cI 301 (zk_up C1 pp c9)), (ml, zk_a cI 41 L9)] H := hP
              obtain ⟨hr9, hw8, hd9⟩ := hu2
              have hw9 : zr_w C1 pp (zr_ls (zr_Fp (zr_v B ah) ah sz sp pp)) 38 3 (9 + C1 (pp + 1)) 1 0 = (c9, l9, d9) := by rw [← hw8]; exact (zr_w_ls 38 3 _ 1 0 (fun i h8 h9 => hu1 i h8 (by omega))).symm
              refine zk_top hr9 ?_
              have hdp := g17_1.2 pp (by omega) (by omega)
              rw [hw9] at hdp
              have hc9 : c9 = C1 pp := congrArg Prod.fst hdp
              have hl9 : l9 = ln1 pp := congrArg (fun x => x.2.1) hdp
              have hd8 : d9 = ds1 pp := congrArg (fun x => x.2.2) hdp
              have hP : va_P D vwCl [(m_, .inr (5, [.int (nI tw), .int (nI sp), .int (nI dp), .ref mb, .int (nI sz), .int (nI ah), .ref mi, .ref mp, .ref m1, .ref m2, .ref m3, .ref mc, .ref ml, .int (nI bl), .int (nI bd), .int (nI rp)])), (mb, zk_a cI 360 B), (mp, zk_a cI 4 pc1), (m1, zk_a cI 1200 R1), (m2, zk_a cI 1200 R2), (m3, zk_a cI 1200 R3), (mc, zk_a cI 301 C1), (ml, zk_a cI 41 L9)] H := by rw [hc9, zk_up_self] at hP; exact hP
              refine lv_istore_n (lv' := [(2, .int (nI l9)), (0, .ref m_), (1, .int (nI pp))]) hx hb dX5_makeLeast_58 rfl hl (by decide) rfl (fun ls hl => ?_)
              refine lv_aload_n hx hb dX5_makeLeast_59 rfl (lv_at hl 1 rfl) ?_
              refine lv_iconst (v := (nI 3)) hx hb dX5_makeLeast_60 (by decide +kernel) ?_
              refine lv_iload_n hx hb dX5_makeLeast_61 rfl (lv_at hl 2 rfl) ?_
              refine lv_iload_n hx hb dX5_makeLeast_62 rfl (lv_at hl 0 rfl) ?_
              refine lv_iload_n hx hb dX5_makeLeast_63 rfl (lv_at hl 0 rfl) ?_
              refine lv_iconst (v := (nI 1)) hx hb dX5_makeLeast_64 (by decide +kernel) ?_
              refine zk_icmp_ne (tgt := 72) hx hb (by omega) (by omega) dX5_makeLeast_65 (by decide) (fun c_3 => ?_) (fun c_3 => ?_)
              · skip
                have hL9 : d9 = L9 l9 := by omega
                have hl3 : 3 ≤ l9 := by omega
                have hin := zr_ok_in (w := 3) (sel := (fun q => (ln1 q, ds1 q))) (dp := dp) (by omega) (zr_ok_dp g17_1) (q := pp) (by omega) (by show 3 ≤ ln1 pp; omega)
                have hin1 : ln1 pp ≤ min 40 (sz - pp) := hin.1
                refine lv_aload_n hx hb dX5_makeLeast_72 rfl (lv_at hl 1 rfl) ?_
                refine va_get (D := D) (ci := 5) (v := .ref ml) (C := RX5) (T := TX5) (N := 16) hx hb hts ziX5_makeLeast_5 hown hK hP 0 rfl rfl 12 (by decide) f32 (fun _ h9 => h9) rfl dX5_makeLeast_73 ?_
                refine lv_iload_n hx hb dX5_makeLeast_76 rfl (lv_at hl 0 rfl) ?_
                refine zk_ild (v := L9 l9) hx hb hK hP 7 0 (i := l9) (g := L9) rfl rfl (by omega) (by decide) rfl dX5_makeLeast_77 ?_
                refine zk_wrV (As := [.int (nI 3), .int (nI pp), .int (nI l9), .int (nI (L9 l9))]) (rest := []) ⟨hx, hb, hml, hown, hts⟩ hN (c_lay4 l D cI cZ cR m_ tw sp dp mb sz ah mi mp m1 m2 m3 mc ml bl bd rp pc1 R1 R2 R3 3 pp l9 (L9 l9) (by omega) (by omega)) (cwV 4 hts gX5_makeLeast_X5_lay_ rfl rfl rfl (by decide +kernel) ⟨Nat.le_of_ble_eq_true rfl, Nat.le_of_ble_eq_true rfl⟩) hK hP (zk_D hD rfl) hS hA [0, 2, 3, 4, 5] rfl (by decide) (fun _ => rfl) rfl rfl rfl rfl hl.1 rfl (Nat.le_of_ble_eq_true rfl) dX5_makeLeast_78 ⟨Nat.zero_le _, Nat.zero_le _⟩ (fun u H locs hu4 hP hS => ?_)
                have hP : va_P D vwCl [(m_, .inr (5, [.int (nI tw), .int (nI sp), .int (nI dp), .ref mb, .int (nI sz), .int (nI ah), .ref mi, .ref mp, .ref m1, .ref m2, .ref m3, .ref mc, .ref ml, .int (nI bl), .int (nI bd), .int (nI rp)])), (mb, zk_a cI 360 B), (mp, zk_a cI 4 (zk_up pc1 3 (pc1 3 + 1))), (m1, zk_a cI 1200 (zk_up R1 (300 * 3 + pc1 3) pp)), (m2, zk_a cI 1200 (zk_up R2 (300 * 3 + pc1 3) l9)), (m3, zk_a cI 1200 (zk_up R3 (300 * 3 + pc1 3) (L9 l9))), (mc, zk_a cI 301 C1), (ml, zk_a cI 41 L9)] H := hP
                refine lv_iload_n hx hb dX5_makeLeast_81 rfl (lv_at hl 2 rfl) ?_
                refine lv_iload_n hx hb dX5_makeLeast_82 rfl (lv_at hl 0 rfl) ?_
                refine zk_add (v := pp + l9) hx hb (rfl) dX5_makeLeast_83 ?_
                refine lv_istore_n (lv' := [(1, .int (nI (pp + l9))), (2, .int (nI l9)), (0, .ref m_)]) hx hb dX5_makeLeast_84 rfl hl (by decide) rfl (fun ls hl => ?_)
                refine lv_goto (tgt := 40) hx hb dX5_makeLeast_85 (by decide) ?_
                exact ih40 (pp + l9) (zk_up pc1 3 (pc1 3 + 1)) (zk_up R1 (300 * 3 + pc1 3) pp) (zk_up R2 (300 * 3 + pc1 3) l9) (zk_up R3 (300 * 3 + pc1 3) (L9 l9)) L9 (P ++ [(pp, l9, L9 l9)]) ls _ _ (by omega) (by rw [zk_up_eq]; omega) (by rw [← g40_2, zk_up_eq, zr_pcs_m (n := sz - pc1 3) (k := sz - (pc1 3 + 1)) (le := l9) (di := L9 l9) (by omega) (by show (ln1 pp, ds1 pp) = _; rw [← hl9, ← hd8, ← hL9]) (by omega) (by omega), List.append_assoc]; rfl) (by rw [zk_up_eq]; exact zr_hpush g40_3) (fun i h9 => by rw [zk_up_ne h9]; exact g40_4 i h9) (zr_sep_up g40_5 (by omega)) (zr_sep_up g40_6 (by omega)) (zr_sep_up g40_7 (by omega)) (by omega) hP hS (lv_sub hl [2, 0] rfl)
              · skip
                have hl1 : l9 = 1 := by omega
                refine lv_iconst (v := (nI 0)) hx hb dX5_makeLeast_68 (by decide +kernel) ?_
                refine lv_goto (tgt := 78) hx hb dX5_makeLeast_69 (by decide) ?_
                refine zk_wrV (As := [.int (nI 3), .int (nI pp), .int (nI l9), .int (nI 0)]) (rest := []) ⟨hx, hb, hml, hown, hts⟩ hN (c_lay4 l D cI cZ cR m_ tw sp dp mb sz ah mi mp m1 m2 m3 mc ml bl bd rp pc1 R1 R2 R3 3 pp l9 0 (by omega) (by omega)) (cwV 4 hts gX5_makeLeast_X5_lay_ rfl rfl rfl (by decide +kernel) ⟨Nat.le_of_ble_eq_true rfl, Nat.le_of_ble_eq_true rfl⟩) hK hP (zk_D hD rfl) hS hA [0, 2, 3, 4, 5] rfl (by decide) (fun _ => rfl) rfl rfl rfl rfl hl.1 rfl (Nat.le_of_ble_eq_true rfl) dX5_makeLeast_78 ⟨Nat.zero_le _, Nat.zero_le _⟩ (fun u H locs hu4 hP hS => ?_)
                have hP : va_P D vwCl [(m_, .inr (5, [.int (nI tw), .int (nI sp), .int (nI dp), .ref mb, .int (nI sz), .int (nI ah), .ref mi, .ref mp, .ref m1, .ref m2, .ref m3, .ref mc, .ref ml, .int (nI bl), .int (nI bd), .int (nI rp)])), (mb, zk_a cI 360 B), (mp, zk_a cI 4 (zk_up pc1 3 (pc1 3 + 1))), (m1, zk_a cI 1200 (zk_up R1 (300 * 3 + pc1 3) pp)), (m2, zk_a cI 1200 (zk_up R2 (300 * 3 + pc1 3) l9)), (m3, zk_a cI 1200 (zk_up R3 (300 * 3 + pc1 3) 0)), (mc, zk_a cI 301 C1), (ml, zk_a cI 41 L9)] H := hP
                refine lv_iload_n hx hb dX5_makeLeast_81 rfl (lv_at hl 2 rfl) ?_
                refine lv_iload_n hx hb dX5_makeLeast_82 rfl (lv_at hl 0 rfl) ?_
                refine zk_add (v := pp + l9) hx hb (rfl) dX5_makeLeast_83 ?_
                refine lv_istore_n (lv' := [(1, .int (nI (pp + l9))), (2, .int (nI l9)), (0, .ref m_)]) hx hb dX5_makeLeast_84 rfl hl (by decide) rfl (fun ls hl => ?_)
                refine lv_goto (tgt := 40) hx hb dX5_makeLeast_85 (by decide) ?_
                exact ih40 (pp + l9) (zk_up pc1 3 (pc1 3 + 1)) (zk_up R1 (300 * 3 + pc1 3) pp) (zk_up R2 (300 * 3 + pc1 3) l9) (zk_up R3 (300 * 3 + pc1 3) 0) L9 (P ++ [(pp, l9, 0)]) ls _ _ (by omega) (by rw [zk_up_eq]; omega) (by rw [← g40_2, zk_up_eq, zr_pcs_l (n := sz - pc1 3) (k := sz - (pc1 3 + 1)) (le := l9) (di := d9) (by omega) (by show (ln1 pp, ds1 pp) = _; rw [← hl9, ← hd8]) (by omega) (by omega), hl1, List.append_assoc]; rfl) (by rw [zk_up_eq]; exact zr_hpush g40_3) (fun i h9 => by rw [zk_up_ne h9]; exact g40_4 i h9) (zr_sep_up g40_5 (by omega)) (zr_sep_up g40_6 (by omega)) (zr_sep_up g40_7 (by omega)) (by omega) hP hS (lv_sub hl [2, 0] rfl)
        exact L40 (sz - 0 + 1) 0 pc P1 P2 P3 L1 ([]) ls _ _ (by omega) (by omega) (by rw [h4]; rfl) (by rw [h4]; exact zr_holds_0) (fun i _ => rfl) (zr_sep_rf _ _) (zr_sep_rf _ _) (zr_sep_rf _ _) (by omega) hP hS (lv_sub hl [1, 0] rfl)
      · skip
        have hq := zk_pr_ge (by omega) c_1
        obtain ⟨pp, rfl⟩ : ∃ p, q = p + 1 := ⟨q - 1, by omega⟩
        rw [zk_pr_s] at hl
        refine lv_aload_n hx hb dX5_makeLeast_21 rfl (lv_at hl 0 rfl) ?_
        refine lv_iload_n hx hb dX5_makeLeast_22 rfl (lv_at hl 1 rfl) ?_
        refine zk_wrV (As := [.int (nI pp)]) (rest := []) ⟨hx, hb, hml, hown, hts⟩ hN (c_findLeast l D cI cZ cR m_ tw sp dp mb sz ah mi mp m1 m2 m3 mc ml bl bd rp B L1 pp (by omega) (by omega) (by omega) (by omega) h3) (cwV 1 hts gX5_makeLeast_X5_findLeast rfl rfl rfl (by decide +kernel) ⟨Nat.le_of_ble_eq_true rfl, Nat.le_of_ble_eq_true rfl⟩) hK hP (zk_D hD rfl) hS hA [0, 1, 7] rfl (by decide) (fun _ => rfl) rfl rfl rfl rfl hl.1 rfl (Nat.le_of_ble_eq_true rfl) dX5_makeLeast_23 ⟨Nat.zero_le _, Nat.zero_le _⟩ (fun u H locs hu1 hP hS => ?_)
        obtain ⟨L9, rfl⟩ : ∃ z, z = u := ⟨_, rfl⟩
        have hu1 : ∀ j, 3 ≤ j → j ≤ 40 → L9 j = zr_ls (zr_Fp (zr_v B ah) ah sz sp pp) j := hu1
        have hP : va_P D vwCl [(m_, .inr (5, [.int (nI tw), .int (nI sp), .int (nI dp), .ref mb, .int (nI sz), .int (nI ah), .ref mi, .ref mp, .ref m1, .ref m2, .ref m3, .ref mc, .ref ml, .int (nI bl), .int (nI bd), .int (nI rp)])), (mb, zk_a cI 360 B), (mp, zk_a cI 4 pc), (m1, zk_a cI 1200 P1), (m2, zk_a cI 1200 P2), (m3, zk_a cI 1200 P3), (mc, zk_a cI 301 C1), (ml, zk_a cI 41 L9)] H := hP
        refine lv_aload_n hx hb dX5_makeLeast_26 rfl (lv_at hl 0 rfl) ?_
        refine lv_iload_n hx hb dX5_makeLeast_27 rfl (lv_at hl 1 rfl) ?_
        have hFm : ∀ j, 3 ≤ j → j ≤ 40 → L9 j ≤ 300 := fun j h8 h9 => by rw [hu1 j h8 h9]; exact zr_ls_300 h2
        have hC1 : C1 (pp + 1) ≤ 2900 := by have h8 := zr_DP_le g17_1 _ (pp + 1) rfl (by omega) (by omega); omega
        have hCj : ∀ j, 3 ≤ j → j ≤ 40 → 0 < L9 j → pp + j ≤ 300 ∧ L9 j ≤ 300 ∧ C1 (pp + j) ≤ 3000 := fun j h8 h9 h7 => by
          rw [hu1 j h8 h9] at h7
          have h6 := zr_ls_sz h7
          have h5 := zr_DP_le g17_1 _ (pp + j) rfl (by omega) (by omega)
          exact ⟨by omega, hFm j h8 h9, by omega⟩
        refine zk_wrI (As := [.int (nI pp)]) (rest := []) ⟨hx, hb, hml, hown, hts⟩ hN (c_mchoose l D cI cZ cR m_ tw sp dp mb sz ah mi mp m1 m2 m3 mc ml bl bd rp C1 L9 pp (by omega) hC1 hCj hFm) (cwV 1 hts gX5_makeLeast_X5_choose rfl rfl rfl (by decide +kernel) ⟨Nat.le_of_ble_eq_true rfl, Nat.le_of_ble_eq_true rfl⟩) hK hP (zk_D hD rfl) hS hA [0, 6, 7] rfl (by decide) (fun _ => rfl) rfl rfl rfl rfl hl.1 rfl (Nat.le_of_ble_eq_true rfl) dX5_makeLeast_28 ⟨Nat.zero_le _, Nat.zero_le _⟩ (fun r u H locs hu2 hP hS => ?_)
        obtain ⟨c9, l9, d9⟩ := u
        have hu2 : r = nI l9 ∧ zr_w C1 pp L9 38 3 (9 + C1 (pp + 1)) 1 0 = (c9, l9, d9) ∧ ((l9 = 1 ∧ d9 = 0) ∨ (3 ≤ l9 ∧ l9 ≤ 40 ∧ d9 = L9 l9)) := hu2
        have hP : va_P D vwCl [(m_, .inr (5, [.int (nI tw), .int (nI sp), .int (nI dp), .ref mb, .int (nI sz), .int (nI ah), .ref mi, .ref mp, .ref m1, .ref m2, .ref m3, .ref mc, .ref ml, .int (nI bl), .int (nI bd), .int (nI rp)])), (mb, zk_a cI 360 B), (mp, zk_a cI 4 pc), (m1, zk_a cI 1200 P1), (m2, zk_a cI 1200 P2), (m3, zk_a cI 1200 P3), (mc, zk_a cI 301 (zk_up C1 pp c9)), (ml, zk_a cI 41 L9)] H := hP
        obtain ⟨hr9, hw8, hd9⟩ := hu2
        have hw9 : zr_w C1 pp (zr_ls (zr_Fp (zr_v B ah) ah sz sp pp)) 38 3 (9 + C1 (pp + 1)) 1 0 = (c9, l9, d9) := by rw [← hw8]; exact (zr_w_ls 38 3 _ 1 0 (fun i h8 h9 => hu1 i h8 (by omega))).symm
        refine zk_top hr9 ?_
        refine lv_istore_n (lv' := [(2, .int (nI l9)), (0, .ref m_), (1, .int (nI pp))]) hx hb dX5_makeLeast_31 rfl hl (by decide) rfl (fun ls hl => ?_)
        refine lv_iinc (v := ((nI pp) - (nI 1))) (lv' := [(1, .int ((nI pp) - (nI 1))), (2, .int (nI l9)), (0, .ref m_)]) hx hb dX5_makeLeast_32 hl (k := 2) rfl (zk_dec _) (by decide) rfl (fun ls hl => ?_)
        refine lv_goto (tgt := 17) hx hb dX5_makeLeast_35 (by decide) ?_
        exact ih17 pp (zk_up C1 pp c9) L9 (zk_up ln1 pp l9) (zk_up ds1 pp d9) ls _ _ (by omega) (zr_DP_up g17_1 (by omega) hw9) (by omega) hP hS (lv_sub hl [2, 0] rfl)
  exact L17 (sz + 1) sz (zk_up C sz 0) L (fun _ => 0) (fun _ => 0) ls _ _ (by omega) ⟨zk_up_eq _ _ _, fun p h1 h2 => absurd h1 (by omega)⟩ (by omega) hP hS (lv_sub hl [1, 0] rfl)
