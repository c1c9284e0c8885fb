/-! ===== both pools side by side ===== -/
def Ge (g h : GE) : Prop := geF g = geF h ∧ geP g = geP h ∧ geW g = geW h
theorem fop_c {g h : GE} (e : Ge g h) (a : AS) (x : Int32) : fop g a x = fop h a x := by unfold fop; rw [e.1, e.2.1]
theorem nx_c {g h : GE} (e : Ge g h) (k : Nat) : nx g k = nx h k := by unfold nx; rw [e.1]
theorem findN_c {g h : GE} (e : Ge g h) : ∀ (n : Nat) (a : AS), findN g n a = findN h n a := by
  intro n
  induction n with
  | zero => intro a; rfl
  | succ n ih => intro a; rw [findN, findN, nx_c e, ih]
theorem spFind_c {g h : GE} (e : Ge g h) (a : AS) : spFind g a = spFind h a := by unfold spFind; rw [e.1, findN_c e]
theorem spFetch_c {g h : GE} (e : Ge g h) (a : AS) (x : Int32) : spFetch g a x = spFetch h a x := by unfold spFetch; rw [e.2.1, fop_c e, spFind_c e]
theorem spUnpin_c {g h : GE} (e : Ge g h) (a : AS) (x : Int32) : spUnpin g a x = spUnpin h a x := by unfold spUnpin; rw [e.1]
theorem spReadW_c {g h : GE} (e : Ge g h) (a : AS) (x y : Int32) : spReadW g a x y = spReadW h a x y := by unfold spReadW; rw [e.1, e.2.2]
theorem spWriteW_c {g h : GE} (e : Ge g h) (a : AS) (x y z : Int32) : spWriteW g a x y z = spWriteW h a x y z := by unfold spWriteW; rw [e.1, e.2.2]
theorem spFlush_c {g h : GE} (e : Ge g h) (a : AS) (x : Int32) : spFlush g a x = spFlush h a x := by unfold spFlush; rw [fop_c e]
theorem spDrop_c {g h : GE} (e : Ge g h) (a : AS) (x : Int32) : spDrop g a x = spDrop h a x := by unfold spDrop; rw [fop_c e]
theorem spCopy_c {g h : GE} (e : Ge g h) (a : AS) (x y : Int32) : spCopy g a x y = spCopy h a x y := by unfold spCopy; rw [e.2.1, fop_c e, fop_c e]
theorem spDiskW_c {g h : GE} (e : Ge g h) (a : AS) (x y : Int32) : spDiskW g a x y = spDiskW h a x y := by unfold spDiskW; rw [e.2.1, e.2.2]
theorem spRes_c {g h : GE} (e : Ge g h) (a : AS) (x : Int32) : spRes g a x = spRes h a x := by unfold spRes; rw [fop_c e]
theorem spTold_c {g h : GE} (e : Ge g h) (a : AS) (x y : Int32) : spTold g a x y = spTold h a x y := by unfold spTold; rw [e.1]
theorem Rep_to {g : GE} {N M : Nat} {a : AS} {u : CS} (h : N ≤ M) (hM : M < 2 ^ 20) (r : Rep g N a u) : Rep g M a u := ⟨r.1, hM, r.2.2.1, r.2.2.2.1, r.2.2.2.2.1, r.2.2.2.2.2.1, r.2.2.2.2.2.2.1, fun f hf => Nat.le_trans (r.2.2.2.2.2.2.2 f hf) h⟩
def zL (dC : Nat → ClassId) (dI : Nat → Nat → Nat) (g h : GE) (A : Nat → Prop) (H0 : Heap) (s : State) (u v : CS) (H : Heap) (locs : List Loc) : Prop :=
  va_K (dC, dI) vwCl (zty g ++ zty h) s ∧ va_P (dC, dI) vwCl (wd 0 g u ++ wd 1 h v) H ∧ va_D A (wd 0 g u ++ wd 1 h v) ∧ va_S A H0 H locs ∧ (∀ q, H0.size ≤ q → A q)
section ZL
variable {p : Program} {l : Launch} {e : Env} {R : Room} {s : State} {m : MethodId} {args : Array Value} {below : List Frame} {meth : Method} {c : Code} {H : Heap} {locs : List Loc} {cells slots : Nat} {Q : State → Prop}
variable {cc : ByteArray} {nL : Nat} {Ts : List Cond} {own : String} {pc : Nat} {ls : Array Slot} {rest : List Value} {dC : Nat → ClassId} {dI : Nat → Nat → Nat} {g h : GE} {A : Nat → Prop} {H0 : Heap} {u v : CS}
theorem zL_callI0 {y : MethodName} {ws : List Cond} {rm : Room} {av : List Value} {post : Int32 → CS → Prop} {bytes : ByteArray} {maxL n index : Nat} {ry : Option FieldType} {st0 : List Value} (S : CallFix p m c cc nL s args Ts own) (Y : zL dC dI g h A H0 s u v H locs) (hM : zMI l y ws rm dC dI 0 g u av post) (cw : CallW R s args own RX0 index y bytes maxL ry ws rm 0 0 n)
    (hn : av.length = n) (hsz : ls.size = nL) (hst : st0 = av.reverse ++ .ref (ga0 g) :: rest) (hW : (rest.map fun v => v.category).sum ≤ 8) (hdg : decode cc pc = .ok (.invokevirtual index, 3)) (hf : cells ≤ R.cells ∧ slots ≤ R.slots)
    (kk : ∀ (r : Int32) (u1 : CS) (H1 : Heap) (locs1 : List Loc), post r u1 → zL dC dI g h A H0 s u1 v H1 locs1 → W p l e R s m args below meth c H1 locs1 cells slots Q (F0 m (pc + 3) ls (.int r :: rest))) : W p l e R s m args below meth c H locs cells slots Q (F0 m pc ls st0) := by
  obtain ⟨hK, hP, hD, hS, hA⟩ := Y
  have hPc := hP.sub (ws' := wd 0 g u) [0, 1, 2, 3, 4, 5, 6] rfl
  have hDc := hD.sub (ws' := wd 0 g u) [0, 1, 2, 3, 4, 5, 6] (by decide) rfl
  have hKc := hK.sub (tys' := zty g) [0, 1] rfl
  have hFc := va_free (wc := wd 0 g u) hD hS hA [0, 1, 2, 3, 4, 5, 6] rfl
  refine va_calli (va_runV (C := RX0) (As := av) (rest := rest) (g := F0 m pc ls st0) (nL := nL) S (hM H.size) cw ⟨zPre_blind, va_recv (q := (RX0, TX0, 12)) hKc hPc (ci := 0) (q0 := 0) (fs := zfl g u) rfl rfl, fun U hU hW => ⟨rfl, by rw [hU], by rw [hU]; exact hPc, va_K.moved hW.alike hKc, hDc.weaken (fun _ _ _ _ => trivial)⟩⟩ rfl hn hsz hst (lv_room hW) hdg hf) hS (fun q _ z => hFc q z) hFc (fun r u1 t H1 locs1 ht hvm hw hB hz1 hk1 hS1 => ?_)
  obtain ⟨hP1, hK1, hD1⟩ := hB
  rw [ht] at hP1
  obtain ⟨hPn, hDn⟩ := va_join (wr := wd 1 h v) (w1 := wd 0 g u1) hP hD [0, 1, 2, 3, 4, 5, 6] [7, 8, 9, 10, 11, 12, 13] rfl rfl (by decide) (by decide) hk1 hFc hP1 hD1
  exact kk r u1 H1 locs1 hw ⟨hK, hPn.sub [7, 8, 9, 10, 11, 12, 13, 0, 1, 2, 3, 4, 5, 6] rfl, hDn.sub [7, 8, 9, 10, 11, 12, 13, 0, 1, 2, 3, 4, 5, 6] (by decide) rfl, hS1, hA⟩
theorem zL_callV0 {y : MethodName} {ws : List Cond} {rm : Room} {av : List Value} {post : CS → Prop} {bytes : ByteArray} {maxL n index : Nat} {ry : Option FieldType} {st0 : List Value} (S : CallFix p m c cc nL s args Ts own) (Y : zL dC dI g h A H0 s u v H locs) (hM : zMV l y ws rm dC dI 0 g u av post) (cw : CallW R s args own RX0 index y bytes maxL ry ws rm 0 0 n)
    (hn : av.length = n) (hsz : ls.size = nL) (hst : st0 = av.reverse ++ .ref (ga0 g) :: rest) (hW : (rest.map fun v => v.category).sum ≤ 8) (hdg : decode cc pc = .ok (.invokevirtual index, 3)) (hf : cells ≤ R.cells ∧ slots ≤ R.slots)
    (kk : ∀ (u1 : CS) (H1 : Heap) (locs1 : List Loc), post u1 → zL dC dI g h A H0 s u1 v H1 locs1 → W p l e R s m args below meth c H1 locs1 cells slots Q (F0 m (pc + 3) ls (rest))) : W p l e R s m args below meth c H locs cells slots Q (F0 m pc ls st0) := by
  obtain ⟨hK, hP, hD, hS, hA⟩ := Y
  have hPc := hP.sub (ws' := wd 0 g u) [0, 1, 2, 3, 4, 5, 6] rfl
  have hDc := hD.sub (ws' := wd 0 g u) [0, 1, 2, 3, 4, 5, 6] (by decide) rfl
  have hKc := hK.sub (tys' := zty g) [0, 1] rfl
  have hFc := va_free (wc := wd 0 g u) hD hS hA [0, 1, 2, 3, 4, 5, 6] rfl
  refine va_callv (va_runV (C := RX0) (As := av) (rest := rest) (g := F0 m pc ls st0) (nL := nL) S (hM H.size) cw ⟨zPre_blind, va_recv (q := (RX0, TX0, 12)) hKc hPc (ci := 0) (q0 := 0) (fs := zfl g u) rfl rfl, fun U hU hW => ⟨rfl, by rw [hU], by rw [hU]; exact hPc, va_K.moved hW.alike hKc, hDc.weaken (fun _ _ _ _ => trivial)⟩⟩ rfl hn hsz hst (lv_room hW) hdg hf) hS (fun q _ z => hFc q z) hFc (fun u1 t H1 locs1 ht hvm hw hB hz1 hk1 hS1 => ?_)
  obtain ⟨hP1, hK1, hD1⟩ := hB
  rw [ht] at hP1
  obtain ⟨hPn, hDn⟩ := va_join (wr := wd 1 h v) (w1 := wd 0 g u1) hP hD [0, 1, 2, 3, 4, 5, 6] [7, 8, 9, 10, 11, 12, 13] rfl rfl (by decide) (by decide) hk1 hFc hP1 hD1
  exact kk u1 H1 locs1 hw ⟨hK, hPn.sub [7, 8, 9, 10, 11, 12, 13, 0, 1, 2, 3, 4, 5, 6] rfl, hDn.sub [7, 8, 9, 10, 11, 12, 13, 0, 1, 2, 3, 4, 5, 6] (by decide) rfl, hS1, hA⟩
theorem zL_callI1 {y : MethodName} {ws : List Cond} {rm : Room} {av : List Value} {post : Int32 → CS → Prop} {bytes : ByteArray} {maxL n index : Nat} {ry : Option FieldType} {st0 : List Value} (S : CallFix p m c cc nL s args Ts own) (Y : zL dC dI g h A H0 s u v H locs) (hM : zMI l y ws rm dC dI 1 h v av post) (cw : CallW R s args own RX1 index y bytes maxL ry ws rm 0 0 n)
    (hn : av.length = n) (hsz : ls.size = nL) (hst : st0 = av.reverse ++ .ref (ga0 h) :: rest) (hW : (rest.map fun v => v.category).sum ≤ 8) (hdg : decode cc pc = .ok (.invokevirtual index, 3)) (hf : cells ≤ R.cells ∧ slots ≤ R.slots)
    (kk : ∀ (r : Int32) (u1 : CS) (H1 : Heap) (locs1 : List Loc), post r u1 → zL dC dI g h A H0 s u u1 H1 locs1 → W p l e R s m args below meth c H1 locs1 cells slots Q (F0 m (pc + 3) ls (.int r :: rest))) : W p l e R s m args below meth c H locs cells slots Q (F0 m pc ls st0) := by
  obtain ⟨hK, hP, hD, hS, hA⟩ := Y
  have hPc := hP.sub (ws' := wd 1 h v) [7, 8, 9, 10, 11, 12, 13] rfl
  have hDc := hD.sub (ws' := wd 1 h v) [7, 8, 9, 10, 11, 12, 13] (by decide) rfl
  have hKc := hK.sub (tys' := zty h) [2, 3] rfl
  have hFc := va_free (wc := wd 1 h v) hD hS hA [7, 8, 9, 10, 11, 12, 13] rfl
  refine va_calli (va_runV (C := RX1) (As := av) (rest := rest) (g := F0 m pc ls st0) (nL := nL) S (hM H.size) cw ⟨zPre_blind, va_recv (q := (RX1, TX1, 12)) hKc hPc (ci := 1) (q0 := 0) (fs := zfl h v) rfl rfl, fun U hU hW => ⟨rfl, by rw [hU], by rw [hU]; exact hPc, va_K.moved hW.alike hKc, hDc.weaken (fun _ _ _ _ => trivial)⟩⟩ rfl hn hsz hst (lv_room hW) hdg hf) hS (fun q _ z => hFc q z) hFc (fun r u1 t H1 locs1 ht hvm hw hB hz1 hk1 hS1 => ?_)
  obtain ⟨hP1, hK1, hD1⟩ := hB
  rw [ht] at hP1
  obtain ⟨hPn, hDn⟩ := va_join (wr := wd 0 g u) (w1 := wd 1 h u1) hP hD [7, 8, 9, 10, 11, 12, 13] [0, 1, 2, 3, 4, 5, 6] rfl rfl (by decide) (by decide) hk1 hFc hP1 hD1
  exact kk r u1 H1 locs1 hw ⟨hK, hPn, hDn, hS1, hA⟩
theorem zL_callV1 {y : MethodName} {ws : List Cond} {rm : Room} {av : List Value} {post : CS → Prop} {bytes : ByteArray} {maxL n index : Nat} {ry : Option FieldType} {st0 : List Value} (S : CallFix p m c cc nL s args Ts own) (Y : zL dC dI g h A H0 s u v H locs) (hM : zMV l y ws rm dC dI 1 h v av post) (cw : CallW R s args own RX1 index y bytes maxL ry ws rm 0 0 n)
    (hn : av.length = n) (hsz : ls.size = nL) (hst : st0 = av.reverse ++ .ref (ga0 h) :: rest) (hW : (rest.map fun v => v.category).sum ≤ 8) (hdg : decode cc pc = .ok (.invokevirtual index, 3)) (hf : cells ≤ R.cells ∧ slots ≤ R.slots)
    (kk : ∀ (u1 : CS) (H1 : Heap) (locs1 : List Loc), post u1 → zL dC dI g h A H0 s u u1 H1 locs1 → W p l e R s m args below meth c H1 locs1 cells slots Q (F0 m (pc + 3) ls (rest))) : W p l e R s m args below meth c H locs cells slots Q (F0 m pc ls st0) := by
  obtain ⟨hK, hP, hD, hS, hA⟩ := Y
  have hPc := hP.sub (ws' := wd 1 h v) [7, 8, 9, 10, 11, 12, 13] rfl
  have hDc := hD.sub (ws' := wd 1 h v) [7, 8, 9, 10, 11, 12, 13] (by decide) rfl
  have hKc := hK.sub (tys' := zty h) [2, 3] rfl
  have hFc := va_free (wc := wd 1 h v) hD hS hA [7, 8, 9, 10, 11, 12, 13] rfl
  refine va_callv (va_runV (C := RX1) (As := av) (rest := rest) (g := F0 m pc ls st0) (nL := nL) S (hM H.size) cw ⟨zPre_blind, va_recv (q := (RX1, TX1, 12)) hKc hPc (ci := 1) (q0 := 0) (fs := zfl h v) rfl rfl, fun U hU hW => ⟨rfl, by rw [hU], by rw [hU]; exact hPc, va_K.moved hW.alike hKc, hDc.weaken (fun _ _ _ _ => trivial)⟩⟩ rfl hn hsz hst (lv_room hW) hdg hf) hS (fun q _ z => hFc q z) hFc (fun u1 t H1 locs1 ht hvm hw hB hz1 hk1 hS1 => ?_)
  obtain ⟨hP1, hK1, hD1⟩ := hB
  rw [ht] at hP1
  obtain ⟨hPn, hDn⟩ := va_join (wr := wd 0 g u) (w1 := wd 1 h u1) hP hD [7, 8, 9, 10, 11, 12, 13] [0, 1, 2, 3, 4, 5, 6] rfl rfl (by decide) (by decide) hk1 hFc hP1 hD1
  exact kk u1 H1 locs1 hw ⟨hK, hPn, hDn, hS1, hA⟩
end ZL
/-- a number of the script, 0 beyond it -/
def cel (L : Nat) (xs : Nat → Int32) (j : Nat) : Int32 := if j < L then xs j else nI 0
set_option maxHeartbeats 4000000 in
theorem kL_cell (l : Launch) (b L : Nat) (xs : Nat → Int32) (hL : L < 2 ^ 31) {j : Nat} (hj : j < 2 ^ 31) : Met l yL_cell wsL_cell ({ frames := 0, cells := 0, slots := 0, locals := 0 }) (va_Pc [.ref b, .int (nI j)] (fun U => va_X b L xs U U.heap)) (va_Qi (fun (r : Int32) (_ : Unit) => r = cel L xs j) (fun _ _ => True) (fun _ => False)) 0 0 (fun _ => False) := by
  refine Met.ofW (cc := cL_cell) (maxL := 2) (ret := (some .int)) (by decide) rfl ?_
  intro p e s m args below meth c s₁ B hml hv
  obtain ⟨rfl, hX⟩ := hv
  have hx := B.exec
  have hb := B.bytes
  have hr := B.returns
  have hlocks := B.notSynchronized
  have hbl : b < s.heap.size := by obtain ⟨scr, h1, -⟩ := hX; exact (Array.getElem?_eq_some_iff.mp h1).1
  have hbA : ¬ (fun _ : Nat => False) b := fun z => z
  have hS : va_S (fun _ => False) s.heap s.heap [] := va_S.rf
  have hl := lv_entry ([.ref b, .int (nI j)]) (n := 2) (Nat.le_of_ble_eq_true rfl)
  rw [lg_entry_eq]
  generalize (lg_sl ([.ref b, .int (nI j)]) ++ List.replicate (2 - (lg_sl ([.ref b, .int (nI j)])).length) Slot.unset).toArray = ls at hl ⊢
  have hl : lv_has ls 2 [(0, .ref b), (1, .int (nI j))] := hl
  refine lv_iload_n hx hb dL_cell_0 rfl (lv_at hl 1 rfl) ?_
  refine lv_aload_n hx hb dL_cell_1 rfl (lv_at hl 0 rfl) ?_
  refine va_slen hx hb hX hbl hbA hS dL_cell_2 ?_
  refine lv_icmp_ge (tgt := 12) hx hb dL_cell_3 (by decide) (fun c3 => ?_) (fun c3 => ?_)
  · have hge : L ≤ j := (nI_leI hL hj).mp c3
    refine lv_iconst (v := nI 0) hx hb dL_cell_12 (by decide) ?_
    exact W.iret hx hb hr (fun t ht hW => ⟨⟨_, (), rfl, (if_neg (by omega)).symm, trivial⟩, by rw [ht]; exact Nat.le_refl _, fun q _ _ => by rw [ht]⟩) (fun q h => by cases h) dL_cell_13
  · have hlt : j < L := Nat.not_le.mp fun z => c3 ((nI_leI hL hj).mpr z)
    refine lv_aload_n hx hb dL_cell_6 rfl (lv_at hl 0 rfl) ?_
    refine lv_iload_n hx hb dL_cell_7 rfl (lv_at hl 1 rfl) ?_
    refine va_sld hx hb hX hbl hbA hS (vp_in_nI hlt hL) dL_cell_8 ?_
    refine z_top (xs j) (by rw [nI_clamp hj]) ?_
    refine lv_goto (tgt := 13) hx hb dL_cell_9 (by decide) ?_
    exact W.iret hx hb hr (fun t ht hW => ⟨⟨_, (), rfl, (if_pos hlt).symm, trivial⟩, by rw [ht]; exact Nat.le_refl _, fun q _ _ => by rw [ht]⟩) (fun q h => by cases h) dL_cell_13
