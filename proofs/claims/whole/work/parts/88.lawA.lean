/-! The law's own methods: cell, share. -/
def zk_pick (k : Nat) : List Nat → va_W → (Nat × va_E) → (Nat × va_E)
  | i :: is, e :: es, x => bif Nat.beq k i then e else zk_pick k is es x
  | _, _, x => x
/-- cells put in their places -/
def zk_put2 : Nat → va_W → List Nat → va_W → va_W
  | _, [], _, _ => []
  | k, x :: xs, is, w => zk_pick k is w x :: zk_put2 (k + 1) xs is w
theorem zk_pick_at {k : Nat} : ∀ (is : List Nat) (w : va_W) (x : Nat × va_E), is.length = w.length → (∃ j : Nat, w[j]? = some (zk_pick k is w x)) ∨ (zk_pick k is w x = x ∧ k ∉ is)
  | [], w, x, _ => Or.inr ⟨by cases w <;> rfl, List.not_mem_nil⟩
  | i :: is, [], x, h => by simp at h
  | i :: is, e :: es, x, h => by
    by_cases hk : k = i
    · refine Or.inl ⟨0, ?_⟩
      rw [List.getElem?_cons_zero, zk_pick, show Nat.beq k i = true by subst hk; exact Nat.beq_refl k]
      rfl
    · have hf : Nat.beq k i = false := by
        cases h9 : Nat.beq k i
        · rfl
        · exact absurd (Nat.eq_of_beq_eq_true h9) hk
      rw [zk_pick, hf]
      rcases zk_pick_at (k := k) is es x (by simpa using h) with ⟨j, hj⟩ | ⟨h1, h2⟩
      · exact Or.inl ⟨j + 1, by rw [List.getElem?_cons_succ]; exact hj⟩
      · refine Or.inr ⟨h1, fun hm => ?_⟩
        rcases List.mem_cons.mp hm with h3 | h3
        · exact hk h3
        · exact h2 h3
theorem zk_put2_at (is : List Nat) (w : va_W) (hl : is.length = w.length) : ∀ (ws : va_W) (k0 j : Nat) (q : Nat × va_E), (zk_put2 k0 ws is w)[j]? = some q → (∃ i : Nat, w[i]? = some q) ∨ (ws[j]? = some q ∧ k0 + j ∉ is)
  | [], k0, j, q, h => by simp [zk_put2] at h
  | x :: xs, k0, 0, q, h => by
    rw [zk_put2, List.getElem?_cons_zero] at h
    cases Option.some.inj h
    rcases zk_pick_at (k := k0) is w x hl with h1 | ⟨h1, h2⟩
    · exact Or.inl h1
    · exact Or.inr ⟨by rw [h1]; rfl, h2⟩
  | x :: xs, k0, j + 1, q, h => by
    rw [zk_put2, List.getElem?_cons_succ] at h
    rcases zk_put2_at is w hl xs (k0 + 1) j q h with h1 | ⟨h1, h2⟩
    · exact Or.inl h1
    · exact Or.inr ⟨by rw [List.getElem?_cons_succ]; exact h1, by rw [show k0 + (j + 1) = k0 + 1 + j by omega]; exact h2⟩
theorem zk_putP2 {A : Nat → Prop} {D : va_G} {cl : List vw_C} {ws w w' : va_W} {H H1 : Heap} {is : List Nat} (hP : va_P D cl ws H) (hD : va_D A ws) (hC : is.map (fun i => ws[i]?) = w.map some) (hl : is.length = w'.length)
    (hk : ∀ q : Nat, q < H.size → ¬ va_A w H.size q → H1[q]? = H[q]?) (hP1 : va_P D cl w' H1) : va_P D cl (zk_put2 0 ws is w') H1 := by
  intro k q hq
  rcases zk_put2_at is w' hl ws 0 k q hq with ⟨j, hj⟩ | ⟨h1, h2⟩
  · exact hP1 j q hj
  · have hlt := (hP k q h1).lt
    refine (hP k q h1).kept (hk q.1 hlt (fun h => ?_))
    rcases h with ⟨k2, e, h⟩ | h
    · obtain ⟨j, h3, h4⟩ := zk_key hC k2 (q.1, e) h
      have hij := hD.1 k j q (q.1, e) h1 h4 rfl
      subst hij
      exact h2 (by rw [Nat.zero_add]; exact List.mem_of_getElem? h3)
    · omega
theorem zk_keepP {A : Nat → Prop} {D : va_G} {cl : List vw_C} {ws w : va_W} {H H1 : Heap} {is : List Nat} (hP : va_P D cl ws H) (hD : va_D A ws) (hC : is.map (fun i => ws[i]?) = w.map some)
    (hk : ∀ q : Nat, q < H.size → ¬ va_A w H.size q → H1[q]? = H[q]?) (hP1 : va_P D cl w H1) : va_P D cl ws H1 := by
  intro k q hq
  by_cases hm : k ∈ is
  · obtain ⟨j, hj⟩ := List.getElem?_of_mem hm
    have h1 : (is.map (fun i => ws[i]?))[j]? = some (some q) := by rw [List.getElem?_map, hj]; show some (ws[k]?) = _; rw [hq]
    rw [hC, List.getElem?_map] at h1
    cases hw : w[j]? with
    | none => rw [hw] at h1; cases h1
    | some z =>
      rw [hw] at h1
      cases h1
      exact hP1 j q hw
  · have hlt := (hP k q hq).lt
    refine (hP k q hq).kept (hk q.1 hlt (fun h => ?_))
    rcases h with ⟨k2, e, h⟩ | h
    · obtain ⟨j, h3, h4⟩ := zk_key hC k2 (q.1, e) h
      have hij := hD.1 k j q (q.1, e) hq h4 rfl
      subst hij
      exact hm (List.mem_of_getElem? h3)
    · omega
def rmL_cell : Room := { frames := 0, cells := 0, slots := 0, locals := 0 }
section ZKL
variable {p : Program} {l : Launch} {e : Env} {R : Room} {s : State} {m : MethodId} {args : Array Value} {below : List Frame} {meth : Method} {c : Code} {H : Heap} {locs : List Loc} {cells slots : Nat} {Q : State → Prop}
variable {pc : Nat} {ls : Array Slot} {rest st0 : List Value} {cc : ByteArray} {D : va_G} {A : Nat → Prop} {H0 : Heap} {tys : List (ClassId × FieldType)} {ws w : va_W}
variable {y : MethodName} {bytes : ByteArray} {maxL nL n index : Nat} {ret : Option FieldType} {wd Ts : List Cond} {rm : Room} {own C : String} {b : Addr} {As : List Value}
/-- the script's int at a place -/
theorem zk_sl (hx : p.tables.exec = Jvm.exec) (hb : c.code = cc) {b L : Nat} {xs : Nat → Int32} (hX : va_X b L xs s H0) (hbl : b < H0.size) (hbA : ¬ A b) (hS : va_S A H0 H locs) {i : Nat} (hi : i < L) (hL : L < 2 ^ 31) (hdg : decode cc pc = .ok (.iaload, 1))
    (kk : W p l e R s m args below meth c H locs cells slots Q (F0 m (pc + 1) ls (.int (xs i) :: rest))) : W p l e R s m args below meth c H locs cells slots Q (F0 m pc ls (.int (nI i) :: .ref b :: rest)) := by
  refine va_sld hx hb hX hbl hbA hS (vp_in_nI hi hL) hdg ?_
  rw [nI_clamp (by omega)]
  exact kk
def zk_Cell (l : Launch) (b L : Nat) (xs : Nat → Int32) (k : Nat) : Prop :=
  Met l yL_cell wsL_cell rmL_cell (va_Pc [.ref b, .int (nI k)] (fun U => va_X b L xs U U.heap ∧ b < U.heap.size)) (QcRead (if k < L then xs k else 0)) 0 0 (fun _ => False)
theorem c_cell (l : Launch) (b L : Nat) (xs : Nat → Int32) (k : Nat) (hk : k < 2 ^ 31) (hL : L < 2 ^ 31) : zk_Cell l b L xs k := by
  refine Met.ofW (cc := cL_cell) (maxL := 2) (ret := some .int) (by decide) rfl ?_
  intro p e s m args below meth c s₁ B hml hv
  obtain ⟨rfl, hX, hbl⟩ := hv
  have hl := lv_entry [.ref b, .int (nI k)] (n := 2) (Nat.le_of_ble_eq_true rfl)
  rw [lg_entry_eq]
  generalize (lg_sl ([.ref b, .int (nI k)]) ++ List.replicate (2 - (lg_sl ([.ref b, .int (nI k)])).length) Slot.unset).toArray = ls at hl ⊢
  have hl : lv_has ls 2 [(0, .ref b), (1, .int (nI k))] := hl
  have hx := B.exec
  have hb := B.bytes
  have hbA : ¬ (fun _ : Nat => False) b := fun h => h
  refine lv_iload_n hx hb dL_cell_0 rfl (lv_at hl 1 rfl) ?_
  refine lv_aload_n hx hb dL_cell_1 rfl (lv_at hl 0 rfl) ?_
  refine va_slen (A := fun _ => False) hx hb hX hbl hbA va_S.rf dL_cell_2 ?_
  refine zk_icmp_ge (x := k) (y := L) (tgt := 12) hx hb hk hL dL_cell_3 (by decide) (fun h => ?_) (fun h => ?_)
  · refine lv_iconst (v := 0) hx hb dL_cell_12 (by decide) ?_
    refine W.iret hx hb B.returns (fun t ht _ => ⟨?_, ht⟩) (fun _ h => by cases h) dL_cell_13 B.notSynchronized
    rw [if_neg (by omega)]
  · refine lv_aload_n hx hb dL_cell_6 rfl (lv_at hl 0 rfl) ?_
    refine lv_iload_n hx hb dL_cell_7 rfl (lv_at hl 1 rfl) ?_
    refine zk_sl (A := fun _ => False) hx hb hX hbl hbA va_S.rf (by omega) hL dL_cell_8 ?_
    refine lv_goto (tgt := 13) hx hb dL_cell_9 (by decide) ?_
    refine W.iret hx hb B.returns (fun t ht _ => ⟨?_, ht⟩) (fun _ h => by cases h) dL_cell_13 B.notSynchronized
    rw [if_pos (by omega)]
/-- a call of cell -/
theorem zk_cellS {L k : Nat} {xs : Nat → Int32} (F : CallFix p m c cc nL s args Ts own) (hM : zk_Cell l b L xs k) (cw : CallB R s args own index yL_cell bytes maxL ret wsL_cell rmL_cell 0 0 2 ∧ (Cond.static yL_cell).before args s = true)
    (hX : va_X b L xs s H0) (hbl : b < H0.size) (hbA : ¬ A b) (hS : va_S A H0 H locs) (hsz : ls.size = nL) (hst : st0 = .int (nI k) :: .ref b :: rest) (hrm : (rest.map fun v => v.category).sum ≤ 8) (hdg : decode cc pc = .ok (.invokestatic index, 3)) (hf : cells ≤ R.cells ∧ slots ≤ R.slots)
    (kk : W p l e R s m args below meth c H locs cells slots Q (F0 m (pc + 3) ls (.int (if k < L then xs k else 0) :: rest))) : W p l e R s m args below meth c H locs cells slots Q (F0 m pc ls st0) := by
  have hX1 : va_X b L xs s H := hX.kept (hS.2.1 b hbl hbA)
  refine W.callR (W.runS F hM cw ⟨fun a U g mk q => ?_, fun U hU hW => ⟨rfl, ?_, ?_⟩⟩ rfl rfl hsz (As := [.ref b, .int (nI k)]) hst (lv_room hrm) hdg hf) kk
  · obtain ⟨q0, q1, q2⟩ := q
    exact ⟨q0, va_X.moved (u := U) (U := U.calling g mk a) (Vm.Alike.refl U.vm) q1, q2⟩
  · rw [hU]; exact hX1.moved hW.alike
  · rw [hU]; exact Nat.lt_of_lt_of_le hbl hS.1
theorem zk_blindX {sa : Nat} {as : List Value} {sz : Nat} : FrameBlind (va_Pc as (fun U => U.heap.size = sz ∧ zk_Pre D tys w U ∧ zk_EH sa (va_A w sz) U U.heap)) := fun a U g mk q => by
  obtain ⟨q0, q1, ⟨qP, qK, qD, qN⟩, qE⟩ := q
  exact ⟨q0, q1, ⟨qP, va_K.moved (u := U) (U := U.calling g mk a) (Vm.Alike.refl U.vm) qK, qD, zk_N.same (s := U) (U := U.calling g mk a) rfl qN⟩, qE.same (u := U) (U := U.calling g mk a) rfl⟩
/-- a call of a method that may throw -/
theorem zk_callX {S : Type} {sa : Nat} {XP : Prop} {post : Int32 → S → Prop} {w' : S → va_W} (F : CallFix p m c cc nL s args Ts own) (hN : zk_N s) (hE : zk_EH sa A s H0) (hM : zk_Xi l y wd rm D tys (.ref b :: As) w sa XP post w') (cw : CallW R s args own C index y bytes maxL ret wd rm 1 6 n)
    (hK : va_K D vwCl tys s) (hP : va_P D vwCl ws H) (hD : va_D A ws) (hS : va_S A H0 H locs) (hA : ∀ q, H0.size ≤ q → A q) (isC : List Nat) (hC : isC.map (fun i => ws[i]?) = w.map some) (hnd : va_nd isC = true) (hlw : ∀ u, isC.length = (w' u).length) {ci : Nat} {q : vw_C} {fs : List Value} (hc : vwCl[ci]? = some q) (hq : q.1 = C) (he : w[0]? = some (b, .inr (ci, fs)))
    (hn : As.length = n) (hsz : ls.size = nL) (hst : st0 = As.reverse ++ .ref b :: rest) (hrm : (rest.map fun v => v.category).sum ≤ 8) (hdg : decode cc pc = .ok (.invokevirtual index, 3)) (hf : cells + 1 ≤ R.cells ∧ slots + 6 ≤ R.slots)
    (kx : ∀ (ce : Cell) (q9 : Addr) (H1 : Heap) (locs1 : List Loc), XP → va_P D vwCl ws H1 → va_S A H0 H1 locs1 → H1[q9]? = some ce → ce.vm = .none → s.vm.findClass "java/lang/ArithmeticException" = some ce.cls → vx_W p l e R s m args below meth c H1 locs1 (cells + 1) (slots + 6) Q (F0 m pc ls rest) q9)
    (kk : ∀ (r : Int32) (u : S) (H1 : Heap) (locs1 : List Loc), post r u → va_P D vwCl (zk_put2 0 ws isC (w' u)) H1 → va_S A H0 H1 locs1 → W p l e R s m args below meth c H1 locs1 (cells + 1) (slots + 6) Q (F0 m (pc + 3) ls (.int r :: rest))) : W p l e R s m args below meth c H locs cells slots Q (F0 m pc ls st0) := by
  subst hq
  have hFc := va_free hD hS hA isC hC
  have hPc : va_P D vwCl w H := zk_subP hP isC hC
  have hDc : va_D (fun _ => True) w := (hD.sub isC hnd hC).weaken (fun _ _ _ _ => trivial)
  have hEc : zk_EH sa (va_A w H.size) s H := (hE.kept hS).narrow hFc
  refine vx_calli (vx_runV F (hM H.size) cw ⟨zk_blindX, va_recv hK hPc hc he, fun U hU hW => ⟨rfl, by rw [hU], ⟨by rw [hU]; exact hPc, va_K.moved hW.alike hK, hDc, hN.warm hW⟩, by rw [hU]; exact hEc.warm hW⟩⟩ rfl hn hsz hst (lv_room hrm) hdg hf) hS (fun q _ h => hFc q h) hFc (fun q _ h => hFc q h) ?_ ?_
  · intro E ce q9 u t H1 locs1 ht hvm hX hB hz hk hS1 hce hcv hcl
    obtain ⟨rfl, hB⟩ := hB
    exact kx ce q9 H1 locs1 hX (zk_keepP hP hD hC hk (by rw [← ht]; exact hB)) hS1 hce hcv hcl
  · intro r u t H1 locs1 ht hvm hw hB hz hk hS1
    exact kk r u H1 locs1 hw (zk_putP2 hP hD hC (hlw u) hk (by rw [← ht]; exact hB)) hS1
/-- a call of a static method with a table, which throws nothing out -/
theorem zk_callL {S : Type} {sa : Nat} {hh : List (Nat × Nat × Nat × Nat)} {post : Int32 → S → Prop} {w' : S → va_W} (F : CallFix p m c cc nL s args Ts own) (hN : zk_N s) (hE : zk_EH sa A s H0) (hM : zk_Xi l y wd rm D tys As w sa False post w') (cw : vx_CSW R s args own index y bytes maxL ret hh wd rm 1 6 n)
    (hK : va_K D vwCl tys s) (hP : va_P D vwCl ws H) (hD : va_D A ws) (hS : va_S A H0 H locs) (hA : ∀ q, H0.size ≤ q → A q) (isC : List Nat) (hC : isC.map (fun i => ws[i]?) = w.map some) (hnd : va_nd isC = true) (hlw : ∀ u, isC.length = (w' u).length)
    (hn : As.length = n) (hsz : ls.size = nL) (hst : st0 = As.reverse ++ rest) (hrm : (rest.map fun v => v.category).sum ≤ 8) (hdg : decode cc pc = .ok (.invokestatic index, 3)) (hf : cells + 1 ≤ R.cells ∧ slots + 6 ≤ R.slots)
    (kk : ∀ (r : Int32) (u : S) (H1 : Heap) (locs1 : List Loc), post r u → va_P D vwCl (zk_put2 0 ws isC (w' u)) H1 → va_S A H0 H1 locs1 → W p l e R s m args below meth c H1 locs1 (cells + 1) (slots + 6) Q (F0 m (pc + 3) ls (.int r :: rest))) : W p l e R s m args below meth c H locs cells slots Q (F0 m pc ls st0) := by
  have hFc := va_free hD hS hA isC hC
  have hPc : va_P D vwCl w H := zk_subP hP isC hC
  have hDc : va_D (fun _ => True) w := (hD.sub isC hnd hC).weaken (fun _ _ _ _ => trivial)
  have hEc : zk_EH sa (va_A w H.size) s H := (hE.kept hS).narrow hFc
  refine vx_calli (vx_runSX F (hM H.size) cw ⟨zk_blindX, fun U hU hW => ⟨rfl, by rw [hU], ⟨by rw [hU]; exact hPc, va_K.moved hW.alike hK, hDc, hN.warm hW⟩, by rw [hU]; exact hEc.warm hW⟩⟩ rfl hn hsz hst (lv_room hrm) hdg hf) hS (fun q _ h => hFc q h) hFc (fun q _ h => hFc q h) ?_ ?_
  · intro E ce q9 u t H1 locs1 ht hvm hX hB hz hk hS1 hce hcv hcl
    exact hX.elim
  · intro r u t H1 locs1 ht hvm hw hB hz hk hS1
    exact kk r u H1 locs1 hw (zk_putP2 hP hD hC (hlw u) hk (by rw [← ht]; exact hB)) hS1
theorem zk_wrI2 {S : Type} {post : Int32 → S → Prop} {w' : S → va_W} (F : CallFix p m c cc nL s args Ts own) (hN : zk_N s) (hM : zk_Wi l y wd rm D tys (.ref b :: As) w post w') (cw : CallW R s args own C index y bytes maxL ret wd rm 0 0 n)
    (hK : va_K D vwCl tys s) (hP : va_P D vwCl ws H) (hD : va_D A ws) (hS : va_S A H0 H locs) (hA : ∀ q, H0.size ≤ q → A q) (isC : List Nat) (hC : isC.map (fun i => ws[i]?) = w.map some) (hnd : va_nd isC = true) (hlw : ∀ u, isC.length = (w' u).length) {ci : Nat} {q : vw_C} {fs : List Value} (hc : vwCl[ci]? = some q) (hq : q.1 = C) (he : w[0]? = some (b, .inr (ci, fs)))
    (hn : As.length = n) (hsz : ls.size = nL) (hst : st0 = As.reverse ++ .ref b :: rest) (hrm : (rest.map fun v => v.category).sum ≤ 8) (hdg : decode cc pc = .ok (.invokevirtual index, 3)) (hf : cells ≤ R.cells ∧ slots ≤ R.slots)
    (kk : ∀ (r : Int32) (u : S) (H1 : Heap) (locs1 : List Loc), post r u → va_P D vwCl (zk_put2 0 ws isC (w' u)) H1 → va_S A H0 H1 locs1 → W p l e R s m args below meth c H1 locs1 cells slots Q (F0 m (pc + 3) ls (.int r :: rest))) : W p l e R s m args below meth c H locs cells slots Q (F0 m pc ls st0) := by
  subst hq
  have hFc := va_free hD hS hA isC hC
  exact va_calli (va_runV F (hM H.size) cw (zk_preV hN hK hP hD isC hC hnd hc he) rfl hn hsz hst (lv_room hrm) hdg hf) hS (fun q _ h => hFc q h) hFc (fun r u t H1 locs1 ht hvm hw hB hz hk hS1 => kk r u H1 locs1 hw (zk_putP2 hP hD hC (hlw u) hk (by rw [← ht]; exact hB)) hS1)
end ZKL
def rmL_share : Room := { frames := 8, cells := 1, slots := 6, locals := 179 }
set_option maxHeartbeats 4000000 in
set_option maxRecDepth 100000 in
/-- the law's share: what is thrown is caught -/
theorem c_Lshare (l : Launch) (D : va_G) (cI cZ cR cL : ClassId) (x_ : Nat) (q_ : Nat) (t : Nat) (f : Nat) (k_ : Nat) (rf : Nat → Option Nat) (sp : Nat) (dp : Nat) (fa : Nat) (fb : Nat) (b : Nat) (ka : Nat) (kb : Nat) (kd : Nat) (r : Nat → Nat) (ra : Nat → Nat) (rb : Nat → Nat) (rd : Nat → Nat) (fl : Nat → Nat) (fd : Nat → Nat) (fc : Nat) (le : Nat) (di : Nat) (g : Nat → Nat) (ah : Nat) (sz : Nat) (co : Nat → Nat) (pn : Nat → Nat) (pd : Nat → Nat) (ct : Nat → Nat) (pb : Nat → Nat) (bw : Nat → Nat) (rc : Nat → Nat) (to : Nat → Nat) (la : Nat → Nat) (se : Nat → Nat) (th : Nat → Nat) (pl : Nat → Nat → Nat) (ln : Nat → Nat → Nat) (ds : Nat → Nat → Nat) (w_ : Int32) (oo : Nat) (o : Nat → Int64) (sa : Nat) (h0 : ah ≤ 60) (h1 : sz ≤ 300) (h2 : sp ≤ 300) (h3 : dp ≤ 64) (h4 : ∀ j, g j < 256) (h5 : ∀ i, i < 4 → rf i = some (r i)) (h6 : zr_rows g ah sz sp dp to ct pb bw rc pl ln ds) (hst : l.stackTraces = false) : zk_Xi l yL_share wsL_share rmL_share D (zk_t cI cZ cR ++ [(cL, .long)]) [.ref x_, .int w_, .ref oo] [(x_, .inr (4, [.ref t, .ref f, .ref k_, .ref q_])), (f, .inr (0, [.ref t, .int (nI sp), .int (nI dp), .ref fa, .ref fb, .int (nI fc), .int (nI le), .int (nI di)])), (fa, zk_a cI 38 fl), (fb, zk_a cI 38 fd), (t, .inr (3, [.ref b, .int (nI ah), .int (nI sz)])), (b, zk_a cI 360 g), (k_, .inr (1, [.ref ka, .ref kb, .ref kd])), (ka, zk_a cI 301 co), (kb, zk_a cI 300 pn), (kd, zk_a cI 300 pd), (q_, .inl (cR, 4, .inr (.inr (.inr (.inr rf))))), (r 0, .inr (2, [.ref (ra 0), .ref (rb 0), .ref (rd 0), .int (nI (ct 0)), .int (nI (pb 0)), .int (nI (bw 0)), .int (nI (rc 0)), .int (nI (to 0)), .int (nI (la 0)), .int (nI (se 0)), .int (nI (th 0))])), (ra 0, zk_a cI 300 (pl 0)), (rb 0, zk_a cI 300 (ln 0)), (rd 0, zk_a cI 300 (ds 0)), (r 1, .inr (2, [.ref (ra 1), .ref (rb 1), .ref (rd 1), .int (nI (ct 1)), .int (nI (pb 1)), .int (nI (bw 1)), .int (nI (rc 1)), .int (nI (to 1)), .int (nI (la 1)), .int (nI (se 1)), .int (nI (th 1))])), (ra 1, zk_a cI 300 (pl 1)), (rb 1, zk_a cI 300 (ln 1)), (rd 1, zk_a cI 300 (ds 1)), (r 2, .inr (2, [.ref (ra 2), .ref (rb 2), .ref (rd 2), .int (nI (ct 2)), .int (nI (pb 2)), .int (nI (bw 2)), .int (nI (rc 2)), .int (nI (to 2)), .int (nI (la 2)), .int (nI (se 2)), .int (nI (th 2))])), (ra 2, zk_a cI 300 (pl 2)), (rb 2, zk_a cI 300 (ln 2)), (rd 2, zk_a cI 300 (ds 2)), (r 3, .inr (2, [.ref (ra 3), .ref (rb 3), .ref (rd 3), .int (nI (ct 3)), .int (nI (pb 3)), .int (nI (bw 3)), .int (nI (rc 3)), .int (nI (to 3)), .int (nI (la 3)), .int (nI (se 3)), .int (nI (th 3))])), (ra 3, zk_a cI 300 (pl 3)), (rb 3, zk_a cI 300 (ln 3)), (rd 3, zk_a cI 300 (ds 3)), (oo, .inl (cL, 1, .inr (.inl o)))] sa False (fun (r : Int32) (u : (Nat → Nat) × (Nat → Nat) × Nat × Nat × Nat × (Nat → Nat) × (Nat → Nat) × (Nat → Nat) × (Nat → Nat) × (Nat → Nat) × (Nat → Nat) × (Nat → Nat) × (Nat → Nat) × (Nat → Nat) × (Nat → Nat) × (Nat → Nat) × (Nat → Nat → Nat) × (Nat → Nat → Nat) × (Nat → Nat → Nat) × (Nat → Int64)) => match u with | (fl2, fd2, fc2, le2, di2, co2, pn2, pd2, ct2, pb2, bw2, rc2, to2, la2, se2, th2, pl2, ln2, ds2, o2) => (r = nI 1 ∧ sz = 0 ∧ (∃ j, j < 4 ∧ w_ = nI j) ∧ zr_rows g ah sz sp dp to2 ct2 pb2 bw2 rc2 pl2 ln2 ds2) ∨ (r = nI 0 ∧ o2 0 = (zA_way w_ (fun j => nI (1000 * bw2 j / (8 * sz)))).toInt64 ∧ (sz = 0 → w_ < 0 ∨ nI 4 ≤ w_) ∧ (∀ j, j < 4 → w_ = nI j → to2 j = 1) ∧ zr_rows g ah sz sp dp to2 ct2 pb2 bw2 rc2 pl2 ln2 ds2)) (fun u => match u with | (fl2, fd2, fc2, le2, di2, co2, pn2, pd2, ct2, pb2, bw2, rc2, to2, la2, se2, th2, pl2, ln2, ds2, o2) => [(x_, .inr (4, [.ref t, .ref f, .ref k_, .ref q_])), (f, .inr (0, [.ref t, .int (nI sp), .int (nI dp), .ref fa, .ref fb, .int (nI fc2), .int (nI le2), .int (nI di2)])), (fa, zk_a cI 38 fl2), (fb, zk_a cI 38 fd2), (t, .inr (3, [.ref b, .int (nI ah), .int (nI sz)])), (b, zk_a cI 360 g), (k_, .inr (1, [.ref ka, .ref kb, .ref kd])), (ka, zk_a cI 301 co2), (kb, zk_a cI 300 pn2), (kd, zk_a cI 300 pd2), (q_, .inl (cR, 4, .inr (.inr (.inr (.inr rf))))), (r 0, .inr (2, [.ref (ra 0), .ref (rb 0), .ref (rd 0), .int (nI (ct2 0)), .int (nI (pb2 0)), .int (nI (bw2 0)), .int (nI (rc2 0)), .int (nI (to2 0)), .int (nI (la2 0)), .int (nI (se2 0)), .int (nI (th2 0))])), (ra 0, zk_a cI 300 (pl2 0)), (rb 0, zk_a cI 300 (ln2 0)), (rd 0, zk_a cI 300 (ds2 0)), (r 1, .inr (2, [.ref (ra 1), .ref (rb 1), .ref (rd 1), .int (nI (ct2 1)), .int (nI (pb2 1)), .int (nI (bw2 1)), .int (nI (rc2 1)), .int (nI (to2 1)), .int (nI (la2 1)), .int (nI (se2 1)), .int (nI (th2 1))])), (ra 1, zk_a cI 300 (pl2 1)), (rb 1, zk_a cI 300 (ln2 1)), (rd 1, zk_a cI 300 (ds2 1)), (r 2, .inr (2, [.ref (ra 2), .ref (rb 2), .ref (rd 2), .int (nI (ct2 2)), .int (nI (pb2 2)), .int (nI (bw2 2)), .int (nI (rc2 2)), .int (nI (to2 2)), .int (nI (la2 2)), .int (nI (se2 2)), .int (nI (th2 2))])), (ra 2, zk_a cI 300 (pl2 2)), (rb 2, zk_a cI 300 (ln2 2)), (rd 2, zk_a cI 300 (ds2 2)), (r 3, .inr (2, [.ref (ra 3), .ref (rb 3), .ref (rd 3), .int (nI (ct2 3)), .int (nI (pb2 3)), .int (nI (bw2 3)), .int (nI (rc2 3)), .int (nI (to2 3)), .int (nI (la2 3)), .int (nI (se2 3)), .int (nI (th2 3))])), (ra 3, zk_a cI 300 (pl2 3)), (rb 3, zk_a cI 300 (ln2 3)), (rd 3, zk_a cI 300 (ds2 3)), (oo, .inl (cL, 1, .inr (.inl o2)))]) := by
  intro szz
  refine vx_ofWH (cc := cL_share) (maxL := 4) (ret := some .int) (hh := [(0, 9, 12, 13)]) (by decide) rfl ?_
  intro p e s m args below meth c s₁ B hml hv
  obtain ⟨rfl, hsz, ⟨hP, hK, hD, hN⟩, hE⟩ := hv
  subst hsz
  have hl := lv_entry [.ref x_, .int w_, .ref oo] (n := 4) (Nat.le_of_ble_eq_true rfl)
  rw [lg_entry_eq]
  generalize (lg_sl ([.ref x_, .int w_, .ref oo]) ++ List.replicate (4 - (lg_sl ([.ref x_, .int w_, .ref oo])).length) Slot.unset).toArray = ls at hl ⊢
  have hl : lv_has ls 4 [(0, .ref x_), (1, .int w_), (2, .ref oo)] := hl
  have hx := B.exec
  have hb := B.bytes
  have hts := atoms_spec (ws := wsL_share) B.pre
  have hown : s.vm.findClass RL = some m.cls := findClass_of_methodNamed B.named
  have htab := vx_table (x := yL_share) B (hts (.codeWith yL_share cL_share 4 (some .int) [(0, 9, 12, 13)]) List.mem_cons_self)
  have hDs := hD.self (sz := s.heap.size)
  refine lv_aload_n hx hb dL_share_0 rfl (lv_at hl 2 rfl) ?_
  refine lv_iconst (v := nI 0) hx hb dL_share_1 (by decide +kernel) ?_
  refine lv_aload_n hx hb dL_share_2 rfl (lv_at hl 0 rfl) ?_
  refine lv_iload_n hx hb dL_share_3 rfl (lv_at hl 1 rfl) ?_
  refine zk_callX (As := [.int w_]) (rest := [.int (nI 0), .ref oo]) (H0 := s.heap) ⟨hx, hb, hml, hown, hts⟩ hN hE (c_share l D cI cZ cR x_ q_ t f k_ rf sp dp fa fb b ka kb kd r ra rb rd fl fd fc le di g ah sz co pn pd ct pb bw rc to la se th pl ln ds w_ sa h0 h1 h2 h3 h4 h5 h6 hst) (cwV 1 hts gL_share_X4_share rfl rfl rfl (by decide +kernel) ⟨Nat.le_of_ble_eq_true rfl, Nat.le_of_ble_eq_true rfl⟩) (hK.sub [0, 1, 2] rfl) hP hDs va_S.rf (fun q h => Or.inr h) [0, 1, 2, 3, 4, 5, 6, 7, 8, 9, 10, 11, 12, 13, 14, 15, 16, 17, 18, 19, 20, 21, 22, 23, 24, 25, 26] rfl (by decide) (fun _ => rfl) rfl rfl rfl rfl hl.1 rfl (Nat.le_of_ble_eq_true rfl) dL_share_4 ⟨Nat.le_of_ble_eq_true rfl, Nat.le_of_ble_eq_true rfl⟩ ?_ ?_
  · intro ce q9 H locs hXP hP hS hce hcv hcl
    have hP : va_P D vwCl [(x_, .inr (4, [.ref t, .ref f, .ref k_, .ref q_])), (f, .inr (0, [.ref t, .int (nI sp), .int (nI dp), .ref fa, .ref fb, .int (nI fc), .int (nI le), .int (nI di)])), (fa, zk_a cI 38 fl), (fb, zk_a cI 38 fd), (t, .inr (3, [.ref b, .int (nI ah), .int (nI sz)])), (b, zk_a cI 360 g), (k_, .inr (1, [.ref ka, .ref kb, .ref kd])), (ka, zk_a cI 301 co), (kb, zk_a cI 300 pn), (kd, zk_a cI 300 pd), (q_, .inl (cR, 4, .inr (.inr (.inr (.inr rf))))), (r 0, .inr (2, [.ref (ra 0), .ref (rb 0), .ref (rd 0), .int (nI (ct 0)), .int (nI (pb 0)), .int (nI (bw 0)), .int (nI (rc 0)), .int (nI (to 0)), .int (nI (la 0)), .int (nI (se 0)), .int (nI (th 0))])), (ra 0, zk_a cI 300 (pl 0)), (rb 0, zk_a cI 300 (ln 0)), (rd 0, zk_a cI 300 (ds 0)), (r 1, .inr (2, [.ref (ra 1), .ref (rb 1), .ref (rd 1), .int (nI (ct 1)), .int (nI (pb 1)), .int (nI (bw 1)), .int (nI (rc 1)), .int (nI (to 1)), .int (nI (la 1)), .int (nI (se 1)), .int (nI (th 1))])), (ra 1, zk_a cI 300 (pl 1)), (rb 1, zk_a cI 300 (ln 1)), (rd 1, zk_a cI 300 (ds 1)), (r 2, .inr (2, [.ref (ra 2), .ref (rb 2), .ref (rd 2), .int (nI (ct 2)), .int (nI (pb 2)), .int (nI (bw 2)), .int (nI (rc 2)), .int (nI (to 2)), .int (nI (la 2)), .int (nI (se 2)), .int (nI (th 2))])), (ra 2, zk_a cI 300 (pl 2)), (rb 2, zk_a cI 300 (ln 2)), (rd 2, zk_a cI 300 (ds 2)), (r 3, .inr (2, [.ref (ra 3), .ref (rb 3), .ref (rd 3), .int (nI (ct 3)), .int (nI (pb 3)), .int (nI (bw 3)), .int (nI (rc 3)), .int (nI (to 3)), .int (nI (la 3)), .int (nI (se 3)), .int (nI (th 3))])), (ra 3, zk_a cI 300 (pl 3)), (rb 3, zk_a cI 300 (ln 3)), (rd 3, zk_a cI 300 (ds 3)), (oo, .inl (cL, 1, .inr (.inl o)))] H := hP
    refine vx_catch (own := RL) (name := "java/lang/ArithmeticException") (E := "java/lang/ArithmeticException") (ce := ce) hown [] ⟨0, 9, 12, 13⟩ [] htab (fun z hz => by cases hz) (by decide) (by decide) (hts (.classLink RL 13 "java/lang/ArithmeticException") (by decide +kernel)) (hE.2.2.2.2.1.use rfl) hce hcv hcl ?_
    refine lv_astore_n (lv' := [(3, .ref q9), (0, .ref x_), (1, .int w_), (2, .ref oo)]) hx hb dL_share_12 rfl hl (by decide) rfl (fun ls hl => ?_)
    refine lv_iconst (v := nI 1) hx hb dL_share_13 (by decide +kernel) ?_
    exact vx_ret (W.iret hx hb B.returns (fun t9 ht _ => ⟨⟨nI 1, (fl, fd, fc, le, di, co, pn, pd, ct, pb, bw, rc, to, la, se, th, pl, ln, ds, o), rfl, Or.inl ⟨rfl, hXP.1, hXP.2, h6⟩, by show va_P D vwCl [(x_, .inr (4, [.ref t, .ref f, .ref k_, .ref q_])), (f, .inr (0, [.ref t, .int (nI sp), .int (nI dp), .ref fa, .ref fb, .int (nI fc), .int (nI le), .int (nI di)])), (fa, zk_a cI 38 fl), (fb, zk_a cI 38 fd), (t, .inr (3, [.ref b, .int (nI ah), .int (nI sz)])), (b, zk_a cI 360 g), (k_, .inr (1, [.ref ka, .ref kb, .ref kd])), (ka, zk_a cI 301 co), (kb, zk_a cI 300 pn), (kd, zk_a cI 300 pd), (q_, .inl (cR, 4, .inr (.inr (.inr (.inr rf))))), (r 0, .inr (2, [.ref (ra 0), .ref (rb 0), .ref (rd 0), .int (nI (ct 0)), .int (nI (pb 0)), .int (nI (bw 0)), .int (nI (rc 0)), .int (nI (to 0)), .int (nI (la 0)), .int (nI (se 0)), .int (nI (th 0))])), (ra 0, zk_a cI 300 (pl 0)), (rb 0, zk_a cI 300 (ln 0)), (rd 0, zk_a cI 300 (ds 0)), (r 1, .inr (2, [.ref (ra 1), .ref (rb 1), .ref (rd 1), .int (nI (ct 1)), .int (nI (pb 1)), .int (nI (bw 1)), .int (nI (rc 1)), .int (nI (to 1)), .int (nI (la 1)), .int (nI (se 1)), .int (nI (th 1))])), (ra 1, zk_a cI 300 (pl 1)), (rb 1, zk_a cI 300 (ln 1)), (rd 1, zk_a cI 300 (ds 1)), (r 2, .inr (2, [.ref (ra 2), .ref (rb 2), .ref (rd 2), .int (nI (ct 2)), .int (nI (pb 2)), .int (nI (bw 2)), .int (nI (rc 2)), .int (nI (to 2)), .int (nI (la 2)), .int (nI (se 2)), .int (nI (th 2))])), (ra 2, zk_a cI 300 (pl 2)), (rb 2, zk_a cI 300 (ln 2)), (rd 2, zk_a cI 300 (ds 2)), (r 3, .inr (2, [.ref (ra 3), .ref (rb 3), .ref (rd 3), .int (nI (ct 3)), .int (nI (pb 3)), .int (nI (bw 3)), .int (nI (rc 3)), .int (nI (to 3)), .int (nI (la 3)), .int (nI (se 3)), .int (nI (th 3))])), (ra 3, zk_a cI 300 (pl 3)), (rb 3, zk_a cI 300 (ln 3)), (rd 3, zk_a cI 300 (ds 3)), (oo, .inl (cL, 1, .inr (.inl o)))] t9.heap; rw [ht]; exact hP⟩, hS.F ht⟩) hS.2.2 dL_share_14 B.notSynchronized)
  · intro r9 u H locs hu hP hS
    obtain ⟨fl9, fd9, fc9, le9, di9, co9, pn9, pd9, ct9, pb9, bw9, rc9, to9, la9, se9, th9, pl9, ln9, ds9⟩ := u
    have hP : va_P D vwCl [(x_, .inr (4, [.ref t, .ref f, .ref k_, .ref q_])), (f, .inr (0, [.ref t, .int (nI sp), .int (nI dp), .ref fa, .ref fb, .int (nI fc9), .int (nI le9), .int (nI di9)])), (fa, zk_a cI 38 fl9), (fb, zk_a cI 38 fd9), (t, .inr (3, [.ref b, .int (nI ah), .int (nI sz)])), (b, zk_a cI 360 g), (k_, .inr (1, [.ref ka, .ref kb, .ref kd])), (ka, zk_a cI 301 co9), (kb, zk_a cI 300 pn9), (kd, zk_a cI 300 pd9), (q_, .inl (cR, 4, .inr (.inr (.inr (.inr rf))))), (r 0, .inr (2, [.ref (ra 0), .ref (rb 0), .ref (rd 0), .int (nI (ct9 0)), .int (nI (pb9 0)), .int (nI (bw9 0)), .int (nI (rc9 0)), .int (nI (to9 0)), .int (nI (la9 0)), .int (nI (se9 0)), .int (nI (th9 0))])), (ra 0, zk_a cI 300 (pl9 0)), (rb 0, zk_a cI 300 (ln9 0)), (rd 0, zk_a cI 300 (ds9 0)), (r 1, .inr (2, [.ref (ra 1), .ref (rb 1), .ref (rd 1), .int (nI (ct9 1)), .int (nI (pb9 1)), .int (nI (bw9 1)), .int (nI (rc9 1)), .int (nI (to9 1)), .int (nI (la9 1)), .int (nI (se9 1)), .int (nI (th9 1))])), (ra 1, zk_a cI 300 (pl9 1)), (rb 1, zk_a cI 300 (ln9 1)), (rd 1, zk_a cI 300 (ds9 1)), (r 2, .inr (2, [.ref (ra 2), .ref (rb 2), .ref (rd 2), .int (nI (ct9 2)), .int (nI (pb9 2)), .int (nI (bw9 2)), .int (nI (rc9 2)), .int (nI (to9 2)), .int (nI (la9 2)), .int (nI (se9 2)), .int (nI (th9 2))])), (ra 2, zk_a cI 300 (pl9 2)), (rb 2, zk_a cI 300 (ln9 2)), (rd 2, zk_a cI 300 (ds9 2)), (r 3, .inr (2, [.ref (ra 3), .ref (rb 3), .ref (rd 3), .int (nI (ct9 3)), .int (nI (pb9 3)), .int (nI (bw9 3)), .int (nI (rc9 3)), .int (nI (to9 3)), .int (nI (la9 3)), .int (nI (se9 3)), .int (nI (th9 3))])), (ra 3, zk_a cI 300 (pl9 3)), (rb 3, zk_a cI 300 (ln9 3)), (rd 3, zk_a cI 300 (ds9 3)), (oo, .inl (cL, 1, .inr (.inl o)))] H := hP
    refine lv_i2l (v := r9.toInt64) hx hb dL_share_7 rfl ?_
    refine va_last hx hb hK hP (zk_D hDs rfl) hS 27 3 rfl rfl (i := nI 0) (vp_in_nI (by decide) (by decide)) dL_share_8 (fun H locs hP _ hS => ?_)
    have hP : va_P D vwCl [(x_, .inr (4, [.ref t, .ref f, .ref k_, .ref q_])), (f, .inr (0, [.ref t, .int (nI sp), .int (nI dp), .ref fa, .ref fb, .int (nI fc9), .int (nI le9), .int (nI di9)])), (fa, zk_a cI 38 fl9), (fb, zk_a cI 38 fd9), (t, .inr (3, [.ref b, .int (nI ah), .int (nI sz)])), (b, zk_a cI 360 g), (k_, .inr (1, [.ref ka, .ref kb, .ref kd])), (ka, zk_a cI 301 co9), (kb, zk_a cI 300 pn9), (kd, zk_a cI 300 pd9), (q_, .inl (cR, 4, .inr (.inr (.inr (.inr rf))))), (r 0, .inr (2, [.ref (ra 0), .ref (rb 0), .ref (rd 0), .int (nI (ct9 0)), .int (nI (pb9 0)), .int (nI (bw9 0)), .int (nI (rc9 0)), .int (nI (to9 0)), .int (nI (la9 0)), .int (nI (se9 0)), .int (nI (th9 0))])), (ra 0, zk_a cI 300 (pl9 0)), (rb 0, zk_a cI 300 (ln9 0)), (rd 0, zk_a cI 300 (ds9 0)), (r 1, .inr (2, [.ref (ra 1), .ref (rb 1), .ref (rd 1), .int (nI (ct9 1)), .int (nI (pb9 1)), .int (nI (bw9 1)), .int (nI (rc9 1)), .int (nI (to9 1)), .int (nI (la9 1)), .int (nI (se9 1)), .int (nI (th9 1))])), (ra 1, zk_a cI 300 (pl9 1)), (rb 1, zk_a cI 300 (ln9 1)), (rd 1, zk_a cI 300 (ds9 1)), (r 2, .inr (2, [.ref (ra 2), .ref (rb 2), .ref (rd 2), .int (nI (ct9 2)), .int (nI (pb9 2)), .int (nI (bw9 2)), .int (nI (rc9 2)), .int (nI (to9 2)), .int (nI (la9 2)), .int (nI (se9 2)), .int (nI (th9 2))])), (ra 2, zk_a cI 300 (pl9 2)), (rb 2, zk_a cI 300 (ln9 2)), (rd 2, zk_a cI 300 (ds9 2)), (r 3, .inr (2, [.ref (ra 3), .ref (rb 3), .ref (rd 3), .int (nI (ct9 3)), .int (nI (pb9 3)), .int (nI (bw9 3)), .int (nI (rc9 3)), .int (nI (to9 3)), .int (nI (la9 3)), .int (nI (se9 3)), .int (nI (th9 3))])), (ra 3, zk_a cI 300 (pl9 3)), (rb 3, zk_a cI 300 (ln9 3)), (rd 3, zk_a cI 300 (ds9 3)), (oo, .inl (cL, 1, .inr (.inl (vp_updL o 0 r9.toInt64))))] H := hP
    refine lv_goto (tgt := 15) hx hb dL_share_9 (by decide) ?_
    refine lv_iconst (v := nI 0) hx hb dL_share_15 (by decide +kernel) ?_
    exact vx_ret (W.iret hx hb B.returns (fun t9 ht _ => ⟨⟨nI 0, (fl9, fd9, fc9, le9, di9, co9, pn9, pd9, ct9, pb9, bw9, rc9, to9, la9, se9, th9, pl9, ln9, ds9, vp_updL o 0 r9.toInt64), rfl, Or.inr ⟨rfl, congrArg Int32.toInt64 hu.1, hu.2.1, hu.2.2.1, hu.2.2.2⟩, by show va_P D vwCl [(x_, .inr (4, [.ref t, .ref f, .ref k_, .ref q_])), (f, .inr (0, [.ref t, .int (nI sp), .int (nI dp), .ref fa, .ref fb, .int (nI fc9), .int (nI le9), .int (nI di9)])), (fa, zk_a cI 38 fl9), (fb, zk_a cI 38 fd9), (t, .inr (3, [.ref b, .int (nI ah), .int (nI sz)])), (b, zk_a cI 360 g), (k_, .inr (1, [.ref ka, .ref kb, .ref kd])), (ka, zk_a cI 301 co9), (kb, zk_a cI 300 pn9), (kd, zk_a cI 300 pd9), (q_, .inl (cR, 4, .inr (.inr (.inr (.inr rf))))), (r 0, .inr (2, [.ref (ra 0), .ref (rb 0), .ref (rd 0), .int (nI (ct9 0)), .int (nI (pb9 0)), .int (nI (bw9 0)), .int (nI (rc9 0)), .int (nI (to9 0)), .int (nI (la9 0)), .int (nI (se9 0)), .int (nI (th9 0))])), (ra 0, zk_a cI 300 (pl9 0)), (rb 0, zk_a cI 300 (ln9 0)), (rd 0, zk_a cI 300 (ds9 0)), (r 1, .inr (2, [.ref (ra 1), .ref (rb 1), .ref (rd 1), .int (nI (ct9 1)), .int (nI (pb9 1)), .int (nI (bw9 1)), .int (nI (rc9 1)), .int (nI (to9 1)), .int (nI (la9 1)), .int (nI (se9 1)), .int (nI (th9 1))])), (ra 1, zk_a cI 300 (pl9 1)), (rb 1, zk_a cI 300 (ln9 1)), (rd 1, zk_a cI 300 (ds9 1)), (r 2, .inr (2, [.ref (ra 2), .ref (rb 2), .ref (rd 2), .int (nI (ct9 2)), .int (nI (pb9 2)), .int (nI (bw9 2)), .int (nI (rc9 2)), .int (nI (to9 2)), .int (nI (la9 2)), .int (nI (se9 2)), .int (nI (th9 2))])), (ra 2, zk_a cI 300 (pl9 2)), (rb 2, zk_a cI 300 (ln9 2)), (rd 2, zk_a cI 300 (ds9 2)), (r 3, .inr (2, [.ref (ra 3), .ref (rb 3), .ref (rd 3), .int (nI (ct9 3)), .int (nI (pb9 3)), .int (nI (bw9 3)), .int (nI (rc9 3)), .int (nI (to9 3)), .int (nI (la9 3)), .int (nI (se9 3)), .int (nI (th9 3))])), (ra 3, zk_a cI 300 (pl9 3)), (rb 3, zk_a cI 300 (ln9 3)), (rd 3, zk_a cI 300 (ds9 3)), (oo, .inl (cL, 1, .inr (.inl (vp_updL o 0 r9.toInt64))))] t9.heap; rw [ht]; exact hP⟩, hS.F ht⟩) hS.2.2 dL_share_16 B.notSynchronized)
