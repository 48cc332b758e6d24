/-! share, which may throw. -/
section ZKX
def zk_EH (sa : Nat) (A : Nat → Prop) (U : State) (H : Heap) : Prop :=
  vk_R RX4 128 "the text has no bytes" sa U ∧ va_Nw (.declares (Bundle.initS "java/lang/RuntimeException")) U ∧ va_Nw (.declares (Bundle.initS "java/lang/Exception")) U ∧ va_Nw (.declares (Bundle.initS Bundle.tN)) U ∧ va_Nw (.castable "java/lang/ArithmeticException" "java/lang/ArithmeticException") U ∧
  vx_Zq Bundle.tN "UNASSIGNED_STACK" Bundle.steD A U H ∧ vx_Zq Bundle.tN "SUPPRESSED_SENTINEL" Bundle.listD A U H
theorem zk_EH.warm {sa : Nat} {A : Nat → Prop} {s U : State} {H : Heap} (hW : s.WarmedH U.vm) (h : zk_EH sa A s H) : zk_EH sa A U H := by
  obtain ⟨h1, h2, h3, h4, h5, h6, h7⟩ := h
  exact ⟨h1.warm hW, h2.warmD hW, h3.warmD hW, h4.warmD hW, h5.warmC hW, h6.moved hW.alike, h7.moved hW.alike⟩
theorem zk_EH.same {sa : Nat} {A : Nat → Prop} {u U : State} {H : Heap} (hv : U.vm = u.vm) (h : zk_EH sa A u H) : zk_EH sa A U H := by
  obtain ⟨h1, h2, h3, h4, h5, h6, h7⟩ := h
  have ha : u.vm.Alike U.vm := by rw [hv]; exact Vm.Alike.refl _
  exact ⟨h1.same hv, h2.same rfl hv.symm, h3.same rfl hv.symm, h4.same rfl hv.symm, h5.same rfl hv.symm, h6.moved ha, h7.moved ha⟩
theorem zk_EH.kept {sa : Nat} {A : Nat → Prop} {s : State} {H0 H : Heap} {locs : List Loc} (hS : va_S A H0 H locs) (h : zk_EH sa A s H0) : zk_EH sa A s H := by
  obtain ⟨h1, h2, h3, h4, h5, h6, h7⟩ := h
  exact ⟨h1, h2, h3, h4, h5, h6.kept hS.2.1, h7.kept hS.2.1⟩
theorem zk_EH.narrow {sa : Nat} {A B : Nat → Prop} {s : State} {H : Heap} (hAB : ∀ q, B q → A q) (h : zk_EH sa A s H) : zk_EH sa B s H := by
  obtain ⟨h1, h2, h3, h4, h5, h6, h7⟩ := h
  exact ⟨h1, h2, h3, h4, h5, h6.narrow hAB, h7.narrow hAB⟩
def zk_Xi {S : Type} (l : Launch) (y : MethodName) (wd : List Cond) (rm : Room) (D : va_G) (tys : List (ClassId × FieldType)) (as : List Value) (w : va_W) (sa : Nat) (XP : Prop) (post : Int32 → S → Prop) (w' : S → va_W) : Prop :=
  ∀ sz : Nat, vx_Met l y wd rm (va_Pc as (fun U => U.heap.size = sz ∧ zk_Pre D tys w U ∧ zk_EH sa (va_A w sz) U U.heap)) (va_Qi post (fun u t => va_P D vwCl (w' u) t.heap) (va_A w sz)) (vx_X (fun _ : Unit => XP) (fun E _ t => E = "java/lang/ArithmeticException" ∧ va_P D vwCl w t.heap) (va_A w sz)) 1 6 (va_A w sz)
set_option maxRecDepth 20000 in
theorem zk_atS_in : ∀ w ∈ (vx_atS RX4 130 "java/lang/ArithmeticException" ["java/lang/RuntimeException", "java/lang/Exception"]).filter goodWord, w ∈ wsX4_share := fun w h => List.mem_cons_of_mem _ (List.mem_append_right _ h)
set_option maxRecDepth 20000 in
theorem zk_atS_no : ∀ w ∈ (vx_atS RX4 130 "java/lang/ArithmeticException" ["java/lang/RuntimeException", "java/lang/Exception"]).filter (fun w => !goodWord w), w ∈ [Cond.declares (Bundle.initS "java/lang/RuntimeException"), .declares (Bundle.initS "java/lang/Exception"), .declares (Bundle.initS Bundle.tN), .castable "java/lang/ArithmeticException" "java/lang/ArithmeticException"] := by decide +kernel
set_option maxRecDepth 20000 in
theorem zk_atS_ot : ∀ w ∈ Cond.classLink RX4 126 "java/lang/ArithmeticException" :: Cond.initialized "java/lang/ArithmeticException" :: vx_atS RX4 130 "java/lang/ArithmeticException" ["java/lang/RuntimeException", "java/lang/Exception"], vx_ot w = true := by decide +kernel
set_option maxHeartbeats 4000000 in
set_option maxRecDepth 100000 in
theorem zk_enterS {S : Type} {l : Launch} {rm : Room} {D : va_G} {tys : List (ClassId × FieldType)} {as : List Value} {w : va_W} {sa : Nat} {XP : Prop} {post : Int32 → S → Prop} {w' : S → va_W} (hst : l.stackTraces = false) (hf : 5 < rm.frames) (hlo : 82 ≤ rm.locals) (hc : 1 ≤ rm.cells) (hs : 6 ≤ rm.slots) (hn : (lg_sl as).length ≤ 2)
    (body : ∀ (p : Program) (e : Env) (s : State) (m : MethodId) (args : Array Value) (below : List Frame) (meth : Method) (c : Code) (ls : Array Slot) (A : Nat → Prop) (Q : State → Prop), p.tables.exec = Jvm.exec → c.code = cX4_share → c.maxLocals = 2 → s.vm.findClass RX4 = some m.cls →
      (∀ w ∈ wsX4_share, w.before args s = true) → va_P D vwCl w s.heap → va_K D vwCl tys s → va_D A w → zk_N s → lv_has ls 2 (lv_args 0 as) → (∀ q : Nat, s.heap.size ≤ q → A q) → va_S A s.heap s.heap [] →
      (∀ (pc : Nat) (ls : Array Slot) (H : Heap) (locs : List Loc) (v : Int32) (u : S), decode cX4_share pc = .ok (.ireturn, 1) → post v u → va_P D vwCl (w' u) H → va_S A s.heap H locs → W p l e rm s m args below meth c H locs 0 0 Q (F0 m pc ls [.int v])) →
      (∀ ls : Array Slot, ls.size = 2 → XP → W p l e rm s m args below meth c s.heap [] 0 0 Q (F0 m 19 ls [])) →
      W p l e rm s m args below meth c s.heap [] 0 0 Q (F0 m 0 ls [])) : zk_Xi l yX4_share wsX4_share rm D tys as w sa XP post w' := by
  intro sz
  refine vx_ofW (cc := cX4_share) (maxL := 2) (ret := some .int) (by decide) rfl ?_
  intro p e s m args below meth c s₁ B hml htb hv
  obtain ⟨rfl, hsz, ⟨hP, hK, hD, hN⟩, hE⟩ := hv
  subst hsz
  have hl := lv_entry as (n := 2) hn
  rw [lg_entry_eq]
  have hts := atoms_spec (ws := wsX4_share) B.pre
  have hown : s.vm.findClass RX4 = some m.cls := findClass_of_methodNamed B.named
  refine body p e s m _ below meth c _ (va_A w s.heap.size) _ B.exec B.bytes hml hown hts hP hK hD.self hN hl (fun q h => Or.inr h) va_S.rf ?_ ?_
  · intro pc ls H locs v u hdg hp hP hS
    refine W.widen (Nat.zero_le _) (Nat.zero_le _) (vx_ret (W.iret B.exec B.bytes B.returns (fun t ht _ => ⟨⟨v, u, rfl, hp, by show va_P D vwCl (w' u) t.heap; rw [ht]; exact hP⟩, hS.F ht⟩) hS.2.2 hdg B.notSynchronized))
  · intro ls hls hXP
    obtain ⟨h1, h2, h3, h4, h5, h6, h7⟩ := hE
    refine vx_throwS (own := RX4) (ik := 126) (is := 128) (ic := 130) (cls := "java/lang/ArithmeticException") (names := ["java/lang/RuntimeException", "java/lang/Exception"]) (A := va_A w s.heap.size) (text := "the text has no bytes") (sa := sa) B.exec B.bytes hst hown (by decide +kernel) (by decide +kernel)
      (hts _ (by decide +kernel)) (hts _ (by decide +kernel)) h1 (vx_hat (fun w hw => hts w (zk_atS_in w hw)) zk_atS_no (vx_c (h2.use rfl) (vx_c (h3.use rfl) (vx_c (h4.use rfl) (vx_c (h5.use rfl) vx_n))))) zk_atS_ot h6 h7 va_S.rf (hls.trans hml.symm)
      dX4_share_19 dX4_share_22 dX4_share_23 dX4_share_25 dX4_share_28 (fun x hx => (htb x hx).elim) hf hlo (by simpa using hc) (by simpa using hs) B.notSynchronized ?_ (fun z hz => by cases hz) (Nat.le_refl _) (Nat.le_refl _)
    intro t hvm hz hk
    exact ⟨(), hXP, ⟨rfl, hP.kept (fun k q hq => hk q.1 (hP k q hq).lt)⟩, hz, fun q h1 _ => hk q h1⟩
end ZKX
def rmX4_share : Room := { frames := 7, cells := 1, slots := 6, locals := 158 }
set_option maxRecDepth 20000 in
theorem ziX4_share_2 : ∀ w ∈ wsX20, w ∈ wsX4_share := by decide +kernel
set_option maxRecDepth 20000 in
theorem ziX4_share_3 : ∀ w ∈ wsX30, w ∈ wsX4_share := by decide +kernel
set_option maxRecDepth 20000 in
theorem ziX4_share_4 : ∀ w ∈ wsX40, w ∈ wsX4_share := by decide +kernel
set_option maxHeartbeats 4000000 in
set_option maxRecDepth 100000 in
/-- share -/
theorem c_share (l : Launch) (D : va_G) (cI cZ cR : ClassId) (x_ : Nat) (q_ : Nat) (t : Nat) (f : Nat) (k_ : Nat) (rf : Nat → Option Nat) (sp : Nat) (dp : Nat) (fa : Nat) (fb : Nat) (b : Nat) (ka : Nat) (kb : Nat) (kd : Nat) (r : Nat → Nat) (ra : Nat → Nat) (rb : Nat → Nat) (rd : Nat → Nat) (fl : Nat → Nat) (fd : Nat → Nat) (fc : Nat) (le : Nat) (di : Nat) (g : Nat → Nat) (ah : Nat) (sz : Nat) (co : Nat → Nat) (pn : Nat → Nat) (pd : Nat → Nat) (ct : Nat → Nat) (pb : Nat → Nat) (bw : Nat → Nat) (rc : Nat → Nat) (to : Nat → Nat) (la : Nat → Nat) (se : Nat → Nat) (th : Nat → Nat) (pl : Nat → Nat → Nat) (ln : Nat → Nat → Nat) (ds : Nat → Nat → Nat) (w_ : Int32) (sa : Nat) (h0 : ah ≤ 60) (h1 : sz ≤ 300) (h2 : sp ≤ 300) (h3 : dp ≤ 64) (h4 : ∀ j, g j < 256) (h5 : ∀ i, i < 4 → rf i = some (r i)) (h6 : zr_rows g ah sz sp dp to ct pb bw rc pl ln ds) (hst : l.stackTraces = false) : zk_Xi l yX4_share wsX4_share rmX4_share D (zk_t cI cZ cR) [.ref x_, .int w_] [(x_, .inr (4, [.ref t, .ref f, .ref k_, .ref q_])), (f, .inr (0, [.ref t, .int (nI sp), .int (nI dp), .ref fa, .ref fb, .int (nI fc), .int (nI le), .int (nI di)])), (fa, zk_a cI 38 fl), (fb, zk_a cI 38 fd), (t, .inr (3, [.ref b, .int (nI ah), .int (nI sz)])), (b, zk_a cI 360 g), (k_, .inr (1, [.ref ka, .ref kb, .ref kd])), (ka, zk_a cI 301 co), (kb, zk_a cI 300 pn), (kd, zk_a cI 300 pd), (q_, .inl (cR, 4, .inr (.inr (.inr (.inr rf))))), (r 0, .inr (2, [.ref (ra 0), .ref (rb 0), .ref (rd 0), .int (nI (ct 0)), .int (nI (pb 0)), .int (nI (bw 0)), .int (nI (rc 0)), .int (nI (to 0)), .int (nI (la 0)), .int (nI (se 0)), .int (nI (th 0))])), (ra 0, zk_a cI 300 (pl 0)), (rb 0, zk_a cI 300 (ln 0)), (rd 0, zk_a cI 300 (ds 0)), (r 1, .inr (2, [.ref (ra 1), .ref (rb 1), .ref (rd 1), .int (nI (ct 1)), .int (nI (pb 1)), .int (nI (bw 1)), .int (nI (rc 1)), .int (nI (to 1)), .int (nI (la 1)), .int (nI (se 1)), .int (nI (th 1))])), (ra 1, zk_a cI 300 (pl 1)), (rb 1, zk_a cI 300 (ln 1)), (rd 1, zk_a cI 300 (ds 1)), (r 2, .inr (2, [.ref (ra 2), .ref (rb 2), .ref (rd 2), .int (nI (ct 2)), .int (nI (pb 2)), .int (nI (bw 2)), .int (nI (rc 2)), .int (nI (to 2)), .int (nI (la 2)), .int (nI (se 2)), .int (nI (th 2))])), (ra 2, zk_a cI 300 (pl 2)), (rb 2, zk_a cI 300 (ln 2)), (rd 2, zk_a cI 300 (ds 2)), (r 3, .inr (2, [.ref (ra 3), .ref (rb 3), .ref (rd 3), .int (nI (ct 3)), .int (nI (pb 3)), .int (nI (bw 3)), .int (nI (rc 3)), .int (nI (to 3)), .int (nI (la 3)), .int (nI (se 3)), .int (nI (th 3))])), (ra 3, zk_a cI 300 (pl 3)), (rb 3, zk_a cI 300 (ln 3)), (rd 3, zk_a cI 300 (ds 3))] sa (sz = 0 ∧ ∃ j, j < 4 ∧ w_ = nI j) (fun (r : Int32) (u : (Nat → Nat) × (Nat → Nat) × Nat × Nat × Nat × (Nat → Nat) × (Nat → Nat) × (Nat → Nat) × (Nat → Nat) × (Nat → Nat) × (Nat → Nat) × (Nat → Nat) × (Nat → Nat) × (Nat → Nat) × (Nat → Nat) × (Nat → Nat) × (Nat → Nat → Nat) × (Nat → Nat → Nat) × (Nat → Nat → Nat)) => match u with | (fl2, fd2, fc2, le2, di2, co2, pn2, pd2, ct2, pb2, bw2, rc2, to2, la2, se2, th2, pl2, ln2, ds2) => r = zA_way w_ (fun j => nI (1000 * bw2 j / (8 * sz))) ∧ (sz = 0 → w_ < 0 ∨ nI 4 ≤ w_) ∧ (∀ j, j < 4 → w_ = nI j → to2 j = 1) ∧ zr_rows g ah sz sp dp to2 ct2 pb2 bw2 rc2 pl2 ln2 ds2) (fun u => match u with | (fl2, fd2, fc2, le2, di2, co2, pn2, pd2, ct2, pb2, bw2, rc2, to2, la2, se2, th2, pl2, ln2, ds2) => [(x_, .inr (4, [.ref t, .ref f, .ref k_, .ref q_])), (f, .inr (0, [.ref t, .int (nI sp), .int (nI dp), .ref fa, .ref fb, .int (nI fc2), .int (nI le2), .int (nI di2)])), (fa, zk_a cI 38 fl2), (fb, zk_a cI 38 fd2), (t, .inr (3, [.ref b, .int (nI ah), .int (nI sz)])), (b, zk_a cI 360 g), (k_, .inr (1, [.ref ka, .ref kb, .ref kd])), (ka, zk_a cI 301 co2), (kb, zk_a cI 300 pn2), (kd, zk_a cI 300 pd2), (q_, .inl (cR, 4, .inr (.inr (.inr (.inr rf))))), (r 0, .inr (2, [.ref (ra 0), .ref (rb 0), .ref (rd 0), .int (nI (ct2 0)), .int (nI (pb2 0)), .int (nI (bw2 0)), .int (nI (rc2 0)), .int (nI (to2 0)), .int (nI (la2 0)), .int (nI (se2 0)), .int (nI (th2 0))])), (ra 0, zk_a cI 300 (pl2 0)), (rb 0, zk_a cI 300 (ln2 0)), (rd 0, zk_a cI 300 (ds2 0)), (r 1, .inr (2, [.ref (ra 1), .ref (rb 1), .ref (rd 1), .int (nI (ct2 1)), .int (nI (pb2 1)), .int (nI (bw2 1)), .int (nI (rc2 1)), .int (nI (to2 1)), .int (nI (la2 1)), .int (nI (se2 1)), .int (nI (th2 1))])), (ra 1, zk_a cI 300 (pl2 1)), (rb 1, zk_a cI 300 (ln2 1)), (rd 1, zk_a cI 300 (ds2 1)), (r 2, .inr (2, [.ref (ra 2), .ref (rb 2), .ref (rd 2), .int (nI (ct2 2)), .int (nI (pb2 2)), .int (nI (bw2 2)), .int (nI (rc2 2)), .int (nI (to2 2)), .int (nI (la2 2)), .int (nI (se2 2)), .int (nI (th2 2))])), (ra 2, zk_a cI 300 (pl2 2)), (rb 2, zk_a cI 300 (ln2 2)), (rd 2, zk_a cI 300 (ds2 2)), (r 3, .inr (2, [.ref (ra 3), .ref (rb 3), .ref (rd 3), .int (nI (ct2 3)), .int (nI (pb2 3)), .int (nI (bw2 3)), .int (nI (rc2 3)), .int (nI (to2 3)), .int (nI (la2 3)), .int (nI (se2 3)), .int (nI (th2 3))])), (ra 3, zk_a cI 300 (pl2 3)), (rb 3, zk_a cI 300 (ln2 3)), (rd 3, zk_a cI 300 (ds2 3))]) := by
  refine zk_enterS hst (by decide) (by decide) (by decide) (by decide) (Nat.le_of_ble_eq_true rfl) ?_
  intro p e s m args below meth c ls A Q hx hb hml hown hts hP hK hD hN hl hA hS hret hthr
  have hl : lv_has ls 2 [(0, .ref x_), (1, .int w_)] := hl
  have f12 := hts (.fieldLink RX4 12 "MatchFinders" "text" "LMatchFinders$Text;") (by decide +kernel)
  have f43 := hts (.fieldLink RX4 43 "MatchFinders$Text" "size" "I") (by decide +kernel)
  have f120 := hts (.fieldLink RX4 120 "MatchFinders$Row" "bitsWithRepeats" "I") (by decide +kernel)
  refine lv_iload_n hx hb dX4_share_0 rfl (lv_at hl 1 rfl) ?_
  refine zk_rdS (As := [.int w_]) (rest := []) ⟨hx, hb, hml, hown, hts⟩ hN (c_isWay l D cI cZ cR w_) (va_cwS 1 hts gX4_share_X4_isWay rfl rfl rfl (by decide +kernel) ⟨Nat.le_of_ble_eq_true rfl, Nat.le_of_ble_eq_true rfl⟩) hK hP (zk_D hD rfl) [] rfl (by decide) rfl hl.1 rfl (Nat.le_of_ble_eq_true rfl) dX4_share_1 ⟨Nat.zero_le _, Nat.zero_le _⟩ ?_
  refine lv_if_ne (tgt := 9) hx hb dX4_share_4 (by decide) (fun c_1 => ?_) (fun c_1 => ?_)
  · skip
    obtain ⟨j, hj, hje⟩ := zk_wz2 (by decide) c_1
    subst hje
    rcases (show j = 0 ∨ j = 1 ∨ j = 2 ∨ j = 3 by omega) with hw | hw | hw | hw
    · subst hw
      refine lv_aload_n hx hb dX4_share_9 rfl (lv_at hl 0 rfl) ?_
      refine va_get (D := D) (ci := 4) (v := .ref t) (C := RX4) (T := TX4) (N := 4) hx hb hts ziX4_share_4 hown hK hP 0 rfl rfl 0 (by decide) f12 (fun _ h9 => h9) rfl dX4_share_10 ?_
      refine va_get (D := D) (ci := 3) (v := .int (nI sz)) (C := RX3) (T := TX3) (N := 3) hx hb hts ziX4_share_3 hown hK hP 4 rfl rfl 2 (by decide) f43 (fun _ h9 => h9) rfl dX4_share_13 ?_
      refine zk_if_gt (tgt := 29) hx hb (by omega) dX4_share_16 (by decide) (fun c_2 => ?_) (fun c_2 => ?_)
      · skip
        refine lv_sipush (v := (nI 1000)) hx hb dX4_share_29 (by decide +kernel) ?_
        refine lv_aload_n hx hb dX4_share_32 rfl (lv_at hl 0 rfl) ?_
        refine lv_iload_n hx hb dX4_share_33 rfl (lv_at hl 1 rfl) ?_
        refine zk_wrA (As := [.int (nI 0)]) (rest := [.int (nI 1000)]) ⟨hx, hb, hml, hown, hts⟩ hN (c_rowOf l D cI cZ cR x_ q_ f sp dp fa fb fc le di fl fd t b ah sz g k_ ka kb kd co pn pd rf (r 0) (ra 0) (rb 0) (rd 0) (ct 0) (pb 0) (bw 0) (rc 0) (to 0) (la 0) (se 0) (th 0) (pl 0) (ln 0) (ds 0) 0 (by omega) (by omega) (by omega) (by omega) h4 (by decide) (h5 0 (by decide)) (h6 0 (by decide))) (cwV 1 hts gX4_share_X4_rowOf rfl rfl rfl (by decide +kernel) ⟨Nat.le_of_ble_eq_true rfl, Nat.le_of_ble_eq_true rfl⟩) hK hP (zk_D hD rfl) hS hA [0, 1, 2, 3, 4, 5, 6, 7, 8, 9, 10, 11, 12, 13, 14] rfl (by decide) (fun _ => rfl) rfl rfl rfl rfl hl.1 rfl (Nat.le_of_ble_eq_true rfl) dX4_share_34 ⟨Nat.zero_le _, Nat.zero_le _⟩ (fun u H locs hu hP hS => ?_)
        obtain ⟨co9, pn9, pd9, fl9, fd9, fc9, le9, di9, pl9, ln9, ds9, ct9, pb9, bw9, rc9, la9, se9, th9⟩ := u
        have hu : zr_row 0 g ah sz sp dp ct9 pb9 bw9 rc9 pl9 ln9 ds9 := hu
        have hP : va_P D vwCl [(x_, .inr (4, [.ref t, .ref f, .ref k_, .ref q_])), (f, .inr (0, [.ref t, .int (nI sp), .int (nI dp), .ref fa, .ref fb, .int (nI fc9), .int (nI le9), .int (nI di9)])), (fa, zk_a cI 38 fl9), (fb, zk_a cI 38 fd9), (t, .inr (3, [.ref b, .int (nI ah), .int (nI sz)])), (b, zk_a cI 360 g), (k_, .inr (1, [.ref ka, .ref kb, .ref kd])), (ka, zk_a cI 301 co9), (kb, zk_a cI 300 pn9), (kd, zk_a cI 300 pd9), (q_, .inl (cR, 4, .inr (.inr (.inr (.inr rf))))), (r 0, .inr (2, [.ref (ra 0), .ref (rb 0), .ref (rd 0), .int (nI ct9), .int (nI pb9), .int (nI bw9), .int (nI rc9), .int (nI 1), .int (nI la9), .int (nI se9), .int (nI th9)])), (ra 0, zk_a cI 300 pl9), (rb 0, zk_a cI 300 ln9), (rd 0, zk_a cI 300 ds9), (r 1, .inr (2, [.ref (ra 1), .ref (rb 1), .ref (rd 1), .int (nI (ct 1)), .int (nI (pb 1)), .int (nI (bw 1)), .int (nI (rc 1)), .int (nI (to 1)), .int (nI (la 1)), .int (nI (se 1)), .int (nI (th 1))])), (ra 1, zk_a cI 300 (pl 1)), (rb 1, zk_a cI 300 (ln 1)), (rd 1, zk_a cI 300 (ds 1)), (r 2, .inr (2, [.ref (ra 2), .ref (rb 2), .ref (rd 2), .int (nI (ct 2)), .int (nI (pb 2)), .int (nI (bw 2)), .int (nI (rc 2)), .int (nI (to 2)), .int (nI (la 2)), .int (nI (se 2)), .int (nI (th 2))])), (ra 2, zk_a cI 300 (pl 2)), (rb 2, zk_a cI 300 (ln 2)), (rd 2, zk_a cI 300 (ds 2)), (r 3, .inr (2, [.ref (ra 3), .ref (rb 3), .ref (rd 3), .int (nI (ct 3)), .int (nI (pb 3)), .int (nI (bw 3)), .int (nI (rc 3)), .int (nI (to 3)), .int (nI (la 3)), .int (nI (se 3)), .int (nI (th 3))])), (ra 3, zk_a cI 300 (pl 3)), (rb 3, zk_a cI 300 (ln 3)), (rd 3, zk_a cI 300 (ds 3))] H := hP
        have hbw := zr_row_bw (by decide) hu h1 h2
        refine va_get (D := D) (ci := 2) (v := .int (nI bw9)) (C := RX2) (T := TX2) (N := 11) hx hb hts ziX4_share_2 hown hK hP 11 rfl rfl 5 (by decide) f120 (fun _ h9 => h9) rfl dX4_share_37 ?_
        refine zk_mul (v := 1000 * bw9) hx hb rfl dX4_share_40 ?_
        refine lv_bipush (v := (nI 8)) hx hb dX4_share_41 (by decide +kernel) ?_
        refine lv_aload_n hx hb dX4_share_43 rfl (lv_at hl 0 rfl) ?_
        refine va_get (D := D) (ci := 4) (v := .ref t) (C := RX4) (T := TX4) (N := 4) hx hb hts ziX4_share_4 hown hK hP 0 rfl rfl 0 (by decide) f12 (fun _ h9 => h9) rfl dX4_share_44 ?_
        refine va_get (D := D) (ci := 3) (v := .int (nI sz)) (C := RX3) (T := TX3) (N := 3) hx hb hts ziX4_share_3 hown hK hP 4 rfl rfl 2 (by decide) f43 (fun _ h9 => h9) rfl dX4_share_47 ?_
        refine zk_mul (v := 8 * sz) hx hb rfl dX4_share_50 ?_
        refine zk_div (v := (1000 * bw9) / (8 * sz)) hx hb (by omega) (by omega) (by omega) rfl dX4_share_51 ?_
        exact hret _ ls _ _ _ (fl9, fd9, fc9, le9, di9, co9, pn9, pd9, zk_up ct 0 ct9, zk_up pb 0 pb9, zk_up bw 0 bw9, zk_up rc 0 rc9, zk_up to 0 1, zk_up la 0 la9, zk_up se 0 se9, zk_up th 0 th9, zk_upF pl 0 pl9, zk_upF ln 0 ln9, zk_upF ds 0 ds9) dX4_share_52 ⟨by rw [zA_way, zk_val (n := 4) (by decide) (by decide)]; rfl, fun h => absurd h (by omega), fun j hj he => by rw [(nI_eq (by omega) (by decide)).mp he.symm]; exact zk_up_eq _ _ _, zr_rows_up h6 hu⟩ hP hS
      · skip
        exact hthr ls hl.1 ⟨by omega, 0, by decide, rfl⟩
    · subst hw
      refine lv_aload_n hx hb dX4_share_9 rfl (lv_at hl 0 rfl) ?_
      refine va_get (D := D) (ci := 4) (v := .ref t) (C := RX4) (T := TX4) (N := 4) hx hb hts ziX4_share_4 hown hK hP 0 rfl rfl 0 (by decide) f12 (fun _ h9 => h9) rfl dX4_share_10 ?_
      refine va_get (D := D) (ci := 3) (v := .int (nI sz)) (C := RX3) (T := TX3) (N := 3) hx hb hts ziX4_share_3 hown hK hP 4 rfl rfl 2 (by decide) f43 (fun _ h9 => h9) rfl dX4_share_13 ?_
      refine zk_if_gt (tgt := 29) hx hb (by omega) dX4_share_16 (by decide) (fun c_3 => ?_) (fun c_3 => ?_)
      · skip
        refine lv_sipush (v := (nI 1000)) hx hb dX4_share_29 (by decide +kernel) ?_
        refine lv_aload_n hx hb dX4_share_32 rfl (lv_at hl 0 rfl) ?_
        refine lv_iload_n hx hb dX4_share_33 rfl (lv_at hl 1 rfl) ?_
        refine zk_wrA (As := [.int (nI 1)]) (rest := [.int (nI 1000)]) ⟨hx, hb, hml, hown, hts⟩ hN (c_rowOf l D cI cZ cR x_ q_ f sp dp fa fb fc le di fl fd t b ah sz g k_ ka kb kd co pn pd rf (r 1) (ra 1) (rb 1) (rd 1) (ct 1) (pb 1) (bw 1) (rc 1) (to 1) (la 1) (se 1) (th 1) (pl 1) (ln 1) (ds 1) 1 (by omega) (by omega) (by omega) (by omega) h4 (by decide) (h5 1 (by decide)) (h6 1 (by decide))) (cwV 1 hts gX4_share_X4_rowOf rfl rfl rfl (by decide +kernel) ⟨Nat.le_of_ble_eq_true rfl, Nat.le_of_ble_eq_true rfl⟩) hK hP (zk_D hD rfl) hS hA [0, 1, 2, 3, 4, 5, 6, 7, 8, 9, 10, 15, 16, 17, 18] rfl (by decide) (fun _ => rfl) rfl rfl rfl rfl hl.1 rfl (Nat.le_of_ble_eq_true rfl) dX4_share_34 ⟨Nat.zero_le _, Nat.zero_le _⟩ (fun u H locs hu hP hS => ?_)
        obtain ⟨co9, pn9, pd9, fl9, fd9, fc9, le9, di9, pl9, ln9, ds9, ct9, pb9, bw9, rc9, la9, se9, th9⟩ := u
        have hu : zr_row 1 g ah sz sp dp ct9 pb9 bw9 rc9 pl9 ln9 ds9 := hu
        have hP : va_P D vwCl [(x_, .inr (4, [.ref t, .ref f, .ref k_, .ref q_])), (f, .inr (0, [.ref t, .int (nI sp), .int (nI dp), .ref fa, .ref fb, .int (nI fc9), .int (nI le9), .int (nI di9)])), (fa, zk_a cI 38 fl9), (fb, zk_a cI 38 fd9), (t, .inr (3, [.ref b, .int (nI ah), .int (nI sz)])), (b, zk_a cI 360 g), (k_, .inr (1, [.ref ka, .ref kb, .ref kd])), (ka, zk_a cI 301 co9), (kb, zk_a cI 300 pn9), (kd, zk_a cI 300 pd9), (q_, .inl (cR, 4, .inr (.inr (.inr (.inr rf))))), (r 0, .inr (2, [.ref (ra 0), .ref (rb 0), .ref (rd 0), .int (nI (ct 0)), .int (nI (pb 0)), .int (nI (bw 0)), .int (nI (rc 0)), .int (nI (to 0)), .int (nI (la 0)), .int (nI (se 0)), .int (nI (th 0))])), (ra 0, zk_a cI 300 (pl 0)), (rb 0, zk_a cI 300 (ln 0)), (rd 0, zk_a cI 300 (ds 0)), (r 1, .inr (2, [.ref (ra 1), .ref (rb 1), .ref (rd 1), .int (nI ct9), .int (nI pb9), .int (nI bw9), .int (nI rc9), .int (nI 1), .int (nI la9), .int (nI se9), .int (nI th9)])), (ra 1, zk_a cI 300 pl9), (rb 1, zk_a cI 300 ln9), (rd 1, zk_a cI 300 ds9), (r 2, .inr (2, [.ref (ra 2), .ref (rb 2), .ref (rd 2), .int (nI (ct 2)), .int (nI (pb 2)), .int (nI (bw 2)), .int (nI (rc 2)), .int (nI (to 2)), .int (nI (la 2)), .int (nI (se 2)), .int (nI (th 2))])), (ra 2, zk_a cI 300 (pl 2)), (rb 2, zk_a cI 300 (ln 2)), (rd 2, zk_a cI 300 (ds 2)), (r 3, .inr (2, [.ref (ra 3), .ref (rb 3), .ref (rd 3), .int (nI (ct 3)), .int (nI (pb 3)), .int (nI (bw 3)), .int (nI (rc 3)), .int (nI (to 3)), .int (nI (la 3)), .int (nI (se 3)), .int (nI (th 3))])), (ra 3, zk_a cI 300 (pl 3)), (rb 3, zk_a cI 300 (ln 3)), (rd 3, zk_a cI 300 (ds 3))] H := hP
        have hbw := zr_row_bw (by decide) hu h1 h2
        refine va_get (D := D) (ci := 2) (v := .int (nI bw9)) (C := RX2) (T := TX2) (N := 11) hx hb hts ziX4_share_2 hown hK hP 15 rfl rfl 5 (by decide) f120 (fun _ h9 => h9) rfl dX4_share_37 ?_
        refine zk_mul (v := 1000 * bw9) hx hb rfl dX4_share_40 ?_
        refine lv_bipush (v := (nI 8)) hx hb dX4_share_41 (by decide +kernel) ?_
        refine lv_aload_n hx hb dX4_share_43 rfl (lv_at hl 0 rfl) ?_
        refine va_get (D := D) (ci := 4) (v := .ref t) (C := RX4) (T := TX4) (N := 4) hx hb hts ziX4_share_4 hown hK hP 0 rfl rfl 0 (by decide) f12 (fun _ h9 => h9) rfl dX4_share_44 ?_
        refine va_get (D := D) (ci := 3) (v := .int (nI sz)) (C := RX3) (T := TX3) (N := 3) hx hb hts ziX4_share_3 hown hK hP 4 rfl rfl 2 (by decide) f43 (fun _ h9 => h9) rfl dX4_share_47 ?_
        refine zk_mul (v := 8 * sz) hx hb rfl dX4_share_50 ?_
        refine zk_div (v := (1000 * bw9) / (8 * sz)) hx hb (by omega) (by omega) (by omega) rfl dX4_share_51 ?_
        exact hret _ ls _ _ _ (fl9, fd9, fc9, le9, di9, co9, pn9, pd9, zk_up ct 1 ct9, zk_up pb 1 pb9, zk_up bw 1 bw9, zk_up rc 1 rc9, zk_up to 1 1, zk_up la 1 la9, zk_up se 1 se9, zk_up th 1 th9, zk_upF pl 1 pl9, zk_upF ln 1 ln9, zk_upF ds 1 ds9) dX4_share_52 ⟨by rw [zA_way, zk_val (n := 4) (by decide) (by decide)]; rfl, fun h => absurd h (by omega), fun j hj he => by rw [(nI_eq (by omega) (by decide)).mp he.symm]; exact zk_up_eq _ _ _, zr_rows_up h6 hu⟩ hP hS
      · skip
        exact hthr ls hl.1 ⟨by omega, 1, by decide, rfl⟩
    · subst hw
      refine lv_aload_n hx hb dX4_share_9 rfl (lv_at hl 0 rfl) ?_
      refine va_get (D := D) (ci := 4) (v := .ref t) (C := RX4) (T := TX4) (N := 4) hx hb hts ziX4_share_4 hown hK hP 0 rfl rfl 0 (by decide) f12 (fun _ h9 => h9) rfl dX4_share_10 ?_
      refine va_get (D := D) (ci := 3) (v := .int (nI sz)) (C := RX3) (T := TX3) (N := 3) hx hb hts ziX4_share_3 hown hK hP 4 rfl rfl 2 (by decide) f43 (fun _ h9 => h9) rfl dX4_share_13 ?_
      refine zk_if_gt (tgt := 29) hx hb (by omega) dX4_share_16 (by decide) (fun c_4 => ?_) (fun c_4 => ?_)
      · skip
        refine lv_sipush (v := (nI 1000)) hx hb dX4_share_29 (by decide +kernel) ?_
        refine lv_aload_n hx hb dX4_share_32 rfl (lv_at hl 0 rfl) ?_
        refine lv_iload_n hx hb dX4_share_33 rfl (lv_at hl 1 rfl) ?_
        refine zk_wrA (As := [.int (nI 2)]) (rest := [.int (nI 1000)]) ⟨hx, hb, hml, hown, hts⟩ hN (c_rowOf l D cI cZ cR x_ q_ f sp dp fa fb fc le di fl fd t b ah sz g k_ ka kb kd co pn pd rf (r 2) (ra 2) (rb 2) (rd 2) (ct 2) (pb 2) (bw 2) (rc 2) (to 2) (la 2) (se 2) (th 2) (pl 2) (ln 2) (ds 2) 2 (by omega) (by omega) (by omega) (by omega) h4 (by decide) (h5 2 (by decide)) (h6 2 (by decide))) (cwV 1 hts gX4_share_X4_rowOf rfl rfl rfl (by decide +kernel) ⟨Nat.le_of_ble_eq_true rfl, Nat.le_of_ble_eq_true rfl⟩) hK hP (zk_D hD rfl) hS hA [0, 1, 2, 3, 4, 5, 6, 7, 8, 9, 10, 19, 20, 21, 22] rfl (by decide) (fun _ => rfl) rfl rfl rfl rfl hl.1 rfl (Nat.le_of_ble_eq_true rfl) dX4_share_34 ⟨Nat.zero_le _, Nat.zero_le _⟩ (fun u H locs hu hP hS => ?_)
        obtain ⟨co9, pn9, pd9, fl9, fd9, fc9, le9, di9, pl9, ln9, ds9, ct9, pb9, bw9, rc9, la9, se9, th9⟩ := u
        have hu : zr_row 2 g ah sz sp dp ct9 pb9 bw9 rc9 pl9 ln9 ds9 := hu
        have hP : va_P D vwCl [(x_, .inr (4, [.ref t, .ref f, .ref k_, .ref q_])), (f, .inr (0, [.ref t, .int (nI sp), .int (nI dp), .ref fa, .ref fb, .int (nI fc9), .int (nI le9), .int (nI di9)])), (fa, zk_a cI 38 fl9), (fb, zk_a cI 38 fd9), (t, .inr (3, [.ref b, .int (nI ah), .int (nI sz)])), (b, zk_a cI 360 g), (k_, .inr (1, [.ref ka, .ref kb, .ref kd])), (ka, zk_a cI 301 co9), (kb, zk_a cI 300 pn9), (kd, zk_a cI 300 pd9), (q_, .inl (cR, 4, .inr (.inr (.inr (.inr rf))))), (r 0, .inr (2, [.ref (ra 0), .ref (rb 0), .ref (rd 0), .int (nI (ct 0)), .int (nI (pb 0)), .int (nI (bw 0)), .int (nI (rc 0)), .int (nI (to 0)), .int (nI (la 0)), .int (nI (se 0)), .int (nI (th 0))])), (ra 0, zk_a cI 300 (pl 0)), (rb 0, zk_a cI 300 (ln 0)), (rd 0, zk_a cI 300 (ds 0)), (r 1, .inr (2, [.ref (ra 1), .ref (rb 1), .ref (rd 1), .int (nI (ct 1)), .int (nI (pb 1)), .int (nI (bw 1)), .int (nI (rc 1)), .int (nI (to 1)), .int (nI (la 1)), .int (nI (se 1)), .int (nI (th 1))])), (ra 1, zk_a cI 300 (pl 1)), (rb 1, zk_a cI 300 (ln 1)), (rd 1, zk_a cI 300 (ds 1)), (r 2, .inr (2, [.ref (ra 2), .ref (rb 2), .ref (rd 2), .int (nI ct9), .int (nI pb9), .int (nI bw9), .int (nI rc9), .int (nI 1), .int (nI la9), .int (nI se9), .int (nI th9)])), (ra 2, zk_a cI 300 pl9), (rb 2, zk_a cI 300 ln9), (rd 2, zk_a cI 300 ds9), (r 3, .inr (2, [.ref (ra 3), .ref (rb 3), .ref (rd 3), .int (nI (ct 3)), .int (nI (pb 3)), .int (nI (bw 3)), .int (nI (rc 3)), .int (nI (to 3)), .int (nI (la 3)), .int (nI (se 3)), .int (nI (th 3))])), (ra 3, zk_a cI 300 (pl 3)), (rb 3, zk_a cI 300 (ln 3)), (rd 3, zk_a cI 300 (ds 3))] H := hP
        have hbw := zr_row_bw (by decide) hu h1 h2
        refine va_get (D := D) (ci := 2) (v := .int (nI bw9)) (C := RX2) (T := TX2) (N := 11) hx hb hts ziX4_share_2 hown hK hP 19 rfl rfl 5 (by decide) f120 (fun _ h9 => h9) rfl dX4_share_37 ?_
        refine zk_mul (v := 1000 * bw9) hx hb rfl dX4_share_40 ?_
        refine lv_bipush (v := (nI 8)) hx hb dX4_share_41 (by decide +kernel) ?_
        refine lv_aload_n hx hb dX4_share_43 rfl (lv_at hl 0 rfl) ?_
        refine va_get (D := D) (ci := 4) (v := .ref t) (C := RX4) (T := TX4) (N := 4) hx hb hts ziX4_share_4 hown hK hP 0 rfl rfl 0 (by decide) f12 (fun _ h9 => h9) rfl dX4_share_44 ?_
        refine va_get (D := D) (ci := 3) (v := .int (nI sz)) (C := RX3) (T := TX3) (N := 3) hx hb hts ziX4_share_3 hown hK hP 4 rfl rfl 2 (by decide) f43 (fun _ h9 => h9) rfl dX4_share_47 ?_
        refine zk_mul (v := 8 * sz) hx hb rfl dX4_share_50 ?_
        refine zk_div (v := (1000 * bw9) / (8 * sz)) hx hb (by omega) (by omega) (by omega) rfl dX4_share_51 ?_
        exact hret _ ls _ _ _ (fl9, fd9, fc9, le9, di9, co9, pn9, pd9, zk_up ct 2 ct9, zk_up pb 2 pb9, zk_up bw 2 bw9, zk_up rc 2 rc9, zk_up to 2 1, zk_up la 2 la9, zk_up se 2 se9, zk_up th 2 th9, zk_upF pl 2 pl9, zk_upF ln 2 ln9, zk_upF ds 2 ds9) dX4_share_52 ⟨by rw [zA_way, zk_val (n := 4) (by decide) (by decide)]; rfl, fun h => absurd h (by omega), fun j hj he => by rw [(nI_eq (by omega) (by decide)).mp he.symm]; exact zk_up_eq _ _ _, zr_rows_up h6 hu⟩ hP hS
      · skip
        exact hthr ls hl.1 ⟨by omega, 2, by decide, rfl⟩
    · subst hw
      refine lv_aload_n hx hb dX4_share_9 rfl (lv_at hl 0 rfl) ?_
      refine va_get (D := D) (ci := 4) (v := .ref t) (C := RX4) (T := TX4) (N := 4) hx hb hts ziX4_share_4 hown hK hP 0 rfl rfl 0 (by decide) f12 (fun _ h9 => h9) rfl dX4_share_10 ?_
      refine va_get (D := D) (ci := 3) (v := .int (nI sz)) (C := RX3) (T := TX3) (N := 3) hx hb hts ziX4_share_3 hown hK hP 4 rfl rfl 2 (by decide) f43 (fun _ h9 => h9) rfl dX4_share_13 ?_
      refine zk_if_gt (tgt := 29) hx hb (by omega) dX4_share_16 (by decide) (fun c_5 => ?_) (fun c_5 => ?_)
      · skip
        refine lv_sipush (v := (nI 1000)) hx hb dX4_share_29 (by decide +kernel) ?_
        refine lv_aload_n hx hb dX4_share_32 rfl (lv_at hl 0 rfl) ?_
        refine lv_iload_n hx hb dX4_share_33 rfl (lv_at hl 1 rfl) ?_
        refine zk_wrA (As := [.int (nI 3)]) (rest := [.int (nI 1000)]) ⟨hx, hb, hml, hown, hts⟩ hN (c_rowOf l D cI cZ cR x_ q_ f sp dp fa fb fc le di fl fd t b ah sz g k_ ka kb kd co pn pd rf (r 3) (ra 3) (rb 3) (rd 3) (ct 3) (pb 3) (bw 3) (rc 3) (to 3) (la 3) (se 3) (th 3) (pl 3) (ln 3) (ds 3) 3 (by omega) (by omega) (by omega) (by omega) h4 (by decide) (h5 3 (by decide)) (h6 3 (by decide))) (cwV 1 hts gX4_share_X4_rowOf rfl rfl rfl (by decide +kernel) ⟨Nat.le_of_ble_eq_true rfl, Nat.le_of_ble_eq_true rfl⟩) hK hP (zk_D hD rfl) hS hA [0, 1, 2, 3, 4, 5, 6, 7, 8, 9, 10, 23, 24, 25, 26] rfl (by decide) (fun _ => rfl) rfl rfl rfl rfl hl.1 rfl (Nat.le_of_ble_eq_true rfl) dX4_share_34 ⟨Nat.zero_le _, Nat.zero_le _⟩ (fun u H locs hu hP hS => ?_)
        obtain ⟨co9, pn9, pd9, fl9, fd9, fc9, le9, di9, pl9, ln9, ds9, ct9, pb9, bw9, rc9, la9, se9, th9⟩ := u
        have hu : zr_row 3 g ah sz sp dp ct9 pb9 bw9 rc9 pl9 ln9 ds9 := hu
        have hP : va_P D vwCl [(x_, .inr (4, [.ref t, .ref f, .ref k_, .ref q_])), (f, .inr (0, [.ref t, .int (nI sp), .int (nI dp), .ref fa, .ref fb, .int (nI fc9), .int (nI le9), .int (nI di9)])), (fa, zk_a cI 38 fl9), (fb, zk_a cI 38 fd9), (t, .inr (3, [.ref b, .int (nI ah), .int (nI sz)])), (b, zk_a cI 360 g), (k_, .inr (1, [.ref ka, .ref kb, .ref kd])), (ka, zk_a cI 301 co9), (kb, zk_a cI 300 pn9), (kd, zk_a cI 300 pd9), (q_, .inl (cR, 4, .inr (.inr (.inr (.inr rf))))), (r 0, .inr (2, [.ref (ra 0), .ref (rb 0), .ref (rd 0), .int (nI (ct 0)), .int (nI (pb 0)), .int (nI (bw 0)), .int (nI (rc 0)), .int (nI (to 0)), .int (nI (la 0)), .int (nI (se 0)), .int (nI (th 0))])), (ra 0, zk_a cI 300 (pl 0)), (rb 0, zk_a cI 300 (ln 0)), (rd 0, zk_a cI 300 (ds 0)), (r 1, .inr (2, [.ref (ra 1), .ref (rb 1), .ref (rd 1), .int (nI (ct 1)), .int (nI (pb 1)), .int (nI (bw 1)), .int (nI (rc 1)), .int (nI (to 1)), .int (nI (la 1)), .int (nI (se 1)), .int (nI (th 1))])), (ra 1, zk_a cI 300 (pl 1)), (rb 1, zk_a cI 300 (ln 1)), (rd 1, zk_a cI 300 (ds 1)), (r 2, .inr (2, [.ref (ra 2), .ref (rb 2), .ref (rd 2), .int (nI (ct 2)), .int (nI (pb 2)), .int (nI (bw 2)), .int (nI (rc 2)), .int (nI (to 2)), .int (nI (la 2)), .int (nI (se 2)), .int (nI (th 2))])), (ra 2, zk_a cI 300 (pl 2)), (rb 2, zk_a cI 300 (ln 2)), (rd 2, zk_a cI 300 (ds 2)), (r 3, .inr (2, [.ref (ra 3), .ref (rb 3), .ref (rd 3), .int (nI ct9), .int (nI pb9), .int (nI bw9), .int (nI rc9), .int (nI 1), .int (nI la9), .int (nI se9), .int (nI th9)])), (ra 3, zk_a cI 300 pl9), (rb 3, zk_a cI 300 ln9), (rd 3, zk_a cI 300 ds9)] H := hP
        have hbw := zr_row_bw (by decide) hu h1 h2
        refine va_get (D := D) (ci := 2) (v := .int (nI bw9)) (C := RX2) (T := TX2) (N := 11) hx hb hts ziX4_share_2 hown hK hP 23 rfl rfl 5 (by decide) f120 (fun _ h9 => h9) rfl dX4_share_37 ?_
        refine zk_mul (v := 1000 * bw9) hx hb rfl dX4_share_40 ?_
        refine lv_bipush (v := (nI 8)) hx hb dX4_share_41 (by decide +kernel) ?_
        refine lv_aload_n hx hb dX4_share_43 rfl (lv_at hl 0 rfl) ?_
        refine va_get (D := D) (ci := 4) (v := .ref t) (C := RX4) (T := TX4) (N := 4) hx hb hts ziX4_share_4 hown hK hP 0 rfl rfl 0 (by decide) f12 (fun _ h9 => h9) rfl dX4_share_44 ?_
        refine va_get (D := D) (ci := 3) (v := .int (nI sz)) (C := RX3) (T := TX3) (N := 3) hx hb hts ziX4_share_3 hown hK hP 4 rfl rfl 2 (by decide) f43 (fun _ h9 => h9) rfl dX4_share_47 ?_
        refine zk_mul (v := 8 * sz) hx hb rfl dX4_share_50 ?_
        refine zk_div (v := (1000 * bw9) / (8 * sz)) hx hb (by omega) (by omega) (by omega) rfl dX4_share_51 ?_
        exact hret _ ls _ _ _ (fl9, fd9, fc9, le9, di9, co9, pn9, pd9, zk_up ct 3 ct9, zk_up pb 3 pb9, zk_up bw 3 bw9, zk_up rc 3 rc9, zk_up to 3 1, zk_up la 3 la9, zk_up se 3 se9, zk_up th 3 th9, zk_upF pl 3 pl9, zk_upF ln 3 ln9, zk_upF ds 3 ds9) dX4_share_52 ⟨by rw [zA_way, zk_val (n := 4) (by decide) (by decide)]; rfl, fun h => absurd h (by omega), fun j hj he => by rw [(nI_eq (by omega) (by decide)).mp he.symm]; exact zk_up_eq _ _ _, zr_rows_up h6 hu⟩ hP hS
      · skip
        exact hthr ls hl.1 ⟨by omega, 3, by decide, rfl⟩
  · skip
    have hno := zk_wz0 c_1
    refine lv_iconst (v := (-1)) hx hb dX4_share_7 (by decide +kernel) ?_
    exact hret _ ls _ _ _ (fl, fd, fc, le, di, co, pn, pd, ct, pb, bw, rc, to, la, se, th, pl, ln, ds) dX4_share_8 ⟨by rw [zA_way, zk_inv hno], fun _ => hno, fun j hj he => absurd hno (zk_wno hj he), h6⟩ hP hS
