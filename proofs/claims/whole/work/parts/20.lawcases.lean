/-! THE CLAIM OUT OF ONE WALK OF THE LAW'S BODY. Your part is whole_start (and what it stands on); all else here is the same for every law, but numbers. -/
def R_law : String := "FramePoolLaw"
def lw_P (b : Addr) (xs : List Int32) (args : Array Value) (s : State) : Prop := args = #[.ref b] ∧ s.IntsAt b xs ∧ xs.length ≤ 2051 ∧ (Jvm.Cond.and given_1 narrow_1).before args s = true
def lw_Q (_ : Array Value) (s : State) (o : Outcome) (t : State) : Prop := o = .returned (some (.int 1)) ∧ Framed s o t [] 600000 7302250
def lw_Z (below : List Frame) (a : Array Value) (s : State) : State → Prop := fun t => ∃ o, t.status = .running ∧ Ended t below o ∧ lw_Q a s o t
/-- the law's own end, with 1 on the stack, nothing written that was there before, its room as the claim has it -/
theorem lw_ret {p : Program} {l : Launch} {e : Env} {s : State} {m : MethodId} {below : List Frame} {meth : Method} {c : Code} {b : Nat} (hx : p.tables.exec = Jvm.exec) (hb : c.code = code) (hr : meth.sig.returnType = ret) (hlocks : meth.locks = false) {pc : Nat} {H : Heap} {ls : Array Slot} (hdg : decode code pc = .ok (.ireturn, 1)) : W p l e room_1 s m #[Value.ref b] below meth c H [] 600000 7302250 (lw_Z below #[Value.ref b] s) (F0 m pc ls [.int 1]) := by
  intro T hT X
  obtain ⟨fs, hret, hrun, hended, hW, hframe⟩ := X.leave (v := some (.int 1)) (hlocks := hlocks) (fun h => by rw [hr] at h; cases h)
  have hmeth' : T.vm.method? m = some meth := X.method'
  refine ⟨T.setFrames fs, ?_, .returned (some (.int 1)), hrun, hended, rfl, ⟨_, rfl⟩, hW, hframe⟩
  jvm_step X.here [X.here.top, hx, hb, hdg, hmeth', hr, ret, narrow_b1]
  (try refine ⟨rfl, ?_⟩); (try refine ⟨rfl, ?_⟩)
  first | (intro acts; rw [hret _ acts rfl rfl rfl]) | rw [hret _ _ rfl rfl rfl]
  exact Steps.refl _
/-- what holds at the law's entry: the machine, the code, the tables' words (any of lw_tbl by 'hts w (by decide +kernel)'), the script of L ints xs at the cell b, what the Statement gives of the start (any of its parts by flat_of_before) -/
def lw_At (p : Program) (s : State) (m : MethodId) (meth : Method) (c : Code) (b L : Nat) (xs : Nat → Int32) : Prop :=
  p.tables.exec = Jvm.exec ∧ c.code = code ∧ meth.sig.returnType = ret ∧ c.maxLocals = 4 ∧ s.vm.findClass R_law = some m.cls ∧ (∀ w ∈ lw_tbl, w.before #[Value.ref b] s = true) ∧ va_X b L xs s s.heap ∧ b < s.heap.size ∧ meth.locks = false ∧ (Jvm.Cond.and given_1 narrow_1).before #[Value.ref b] s = true
set_option maxHeartbeats 4000000 in
set_option maxRecDepth 100000 in
theorem law_c0 {p : Program} {l : Launch} {e : Env} {s : State} {m : MethodId} {below : List Frame} {meth : Method} {c : Code} {b L : Nat} {xs : Nat → Int32} {dC : Nat → ClassId} {dI : Nat → Nat → Nat} {g h : GE} {Q : State → Prop} (hL : L ≤ 2051) (C0 : lw_At p s m meth c b L xs) (hG : Ge h g) (hX : geS g = geW g) (hM : geS h = 8) (hM3 : gn3 h = 1600) (hM5 : gn5 h = 32) {k : Nat} (hk : k + 4 ≤ L) {a : AS} {u v : CS} (rX : Rep g k a u) (rM : Rep h k a v) {H : Heap} {locs : List Loc} (Y : zL dC dI g h (fun q => s.heap.size ≤ q) s.heap s u v H locs) {ls : Array Slot} (hl : lv_has ls 4 [(0, .ref b), (1, .ref (ga0 g)), (2, .ref (ga0 h)), (3, .int (nI k))])
    (kk : ∀ (a1 : AS) (u1 v1 : CS) (H1 : Heap) (locs1 : List Loc), Rep g (k + 4) a1 u1 → Rep h (k + 4) a1 v1 → zL dC dI g h (fun q => s.heap.size ≤ q) s.heap s u1 v1 H1 locs1 → W p l e room_1 s m #[Value.ref b] below meth c H1 locs1 600000 7302250 Q (F0 m 506 ls [])) : W p l e room_1 s m #[Value.ref b] below meth c H locs 600000 7302250 Q (F0 m 140 ls []) := by
  obtain ⟨hx, hb, hr, hml, hown, hts, hXs, hbl, hlocks, hgv⟩ := C0
  have hown : s.vm.findClass RL = some m.cls := hown
  have htsL : ∀ w ∈ wsL_law, w.before #[Value.ref b] s = true := fun w z => hts w (wsL_law_in w z)
  have hbA : ¬ (fun q : Nat => s.heap.size ≤ q) b := Nat.not_le.mpr hbl
  have hN1 : k + 1 < 2 ^ 20 := by omega
  have hN4 : k + 4 < 2 ^ 20 := by omega
  refine lv_aload_n hx hb dL_law_140 rfl (lv_at hl 1 rfl) ?_
  refine zL_callV0 (rest := []) ⟨hx, hb, hml, hown, htsL⟩ Y (kX0_init_ l dC dI rX.1 u) (cwV 0 htsL gL_law_X0_init_ rfl rfl rfl (by decide +kernel) ⟨Nat.le_of_ble_eq_true rfl, Nat.le_of_ble_eq_true rfl⟩) rfl hl.1 rfl (Nat.le_of_ble_eq_true rfl) dL_law_141 ⟨Nat.le_refl _, Nat.le_refl _⟩ (fun u1 Hq lq hw1 Y => ?_)
  refine lv_aload_n hx hb dL_law_144 rfl (lv_at hl 2 rfl) ?_
  refine zL_callV1 (rest := []) ⟨hx, hb, hml, hown, htsL⟩ Y (kX1_init_ l dC dI rM.1 hM3 hM5 v) (cwV 0 htsL gL_law_X1_init_ rfl rfl rfl (by decide +kernel) ⟨Nat.le_of_ble_eq_true rfl, Nat.le_of_ble_eq_true rfl⟩) rfl hl.1 rfl (Nat.le_of_ble_eq_true rfl) dL_law_145 ⟨Nat.le_refl _, Nat.le_refl _⟩ (fun u2 Hq lq hw2 Y => ?_)
  have q1 := ini_Rep (N := k + 4) (a := a) rX.1 (Nat.le_refl _) hN4 rX.2.2.1.2.1 hw1
  have q2 := ini_Rep (N := k + 4) (a := a) rM.1 rM.1.2.1 hN4 rM.2.2.1.2.1 hw2
  refine lv_goto (tgt := 506) hx hb dL_law_148 (by decide) ?_
  exact kk _ _ _ _ _ q1 q2 Y
set_option maxHeartbeats 4000000 in
set_option maxRecDepth 100000 in
theorem law_c1 {p : Program} {l : Launch} {e : Env} {s : State} {m : MethodId} {below : List Frame} {meth : Method} {c : Code} {b L : Nat} {xs : Nat → Int32} {dC : Nat → ClassId} {dI : Nat → Nat → Nat} {g h : GE} {Q : State → Prop} (hL : L ≤ 2051) (C0 : lw_At p s m meth c b L xs) (hG : Ge h g) (hX : geS g = geW g) (hM : geS h = 8) (hM3 : gn3 h = 1600) (hM5 : gn5 h = 32) {k : Nat} (hk : k + 4 ≤ L) {a : AS} {u v : CS} (rX : Rep g k a u) (rM : Rep h k a v) {H : Heap} {locs : List Loc} (Y : zL dC dI g h (fun q => s.heap.size ≤ q) s.heap s u v H locs) {ls : Array Slot} (hl : lv_has ls 4 [(0, .ref b), (1, .ref (ga0 g)), (2, .ref (ga0 h)), (3, .int (nI k))])
    (kk : ∀ (a1 : AS) (u1 v1 : CS) (H1 : Heap) (locs1 : List Loc), Rep g (k + 4) a1 u1 → Rep h (k + 4) a1 v1 → zL dC dI g h (fun q => s.heap.size ≤ q) s.heap s u1 v1 H1 locs1 → W p l e room_1 s m #[Value.ref b] below meth c H1 locs1 600000 7302250 Q (F0 m 506 ls [])) : W p l e room_1 s m #[Value.ref b] below meth c H locs 600000 7302250 Q (F0 m 151 ls []) := by
  obtain ⟨hx, hb, hr, hml, hown, hts, hXs, hbl, hlocks, hgv⟩ := C0
  have hown : s.vm.findClass RL = some m.cls := hown
  have htsL : ∀ w ∈ wsL_law, w.before #[Value.ref b] s = true := fun w z => hts w (wsL_law_in w z)
  have hbA : ¬ (fun q : Nat => s.heap.size ≤ q) b := Nat.not_le.mpr hbl
  have hN1 : k + 1 < 2 ^ 20 := by omega
  have hN4 : k + 4 < 2 ^ 20 := by omega
  refine lv_aload_n hx hb dL_law_151 rfl (lv_at hl 1 rfl) ?_
  refine lv_aload_n hx hb dL_law_152 rfl (lv_at hl 0 rfl) ?_
  refine lv_iload_n hx hb dL_law_153 rfl (lv_at hl 3 rfl) ?_
  refine lv_iconst (v := nI 1) hx hb dL_law_154 (by decide) ?_
  refine lv_iadd hx hb dL_law_155 ?_
  refine z_top (nI (k + 1)) (nI_add k 1) ?_
  refine va_sld hx hb hXs hbl hbA Y.2.2.2.1 (vp_in_nI (show k + 1 < L by omega) (by omega)) dL_law_156 ?_
  refine z_top (xs (k + 1)) (by rw [nI_clamp (by omega)]) ?_
  refine zL_callI0 (rest := []) ⟨hx, hb, hml, hown, htsL⟩ Y (kX0_fetch l dC dI rX hX hN1 (xs (k + 1))) (cwV 1 htsL gL_law_X0_fetch rfl rfl rfl (by decide +kernel) ⟨Nat.le_of_ble_eq_true rfl, Nat.le_of_ble_eq_true rfl⟩) rfl hl.1 rfl (Nat.le_of_ble_eq_true rfl) dL_law_157 ⟨Nat.le_refl _, Nat.le_refl _⟩ (fun r1 u1 Hq lq hw1 Y => ?_)
  refine lv_aload_n hx hb dL_law_160 rfl (lv_at hl 2 rfl) ?_
  refine lv_aload_n hx hb dL_law_161 rfl (lv_at hl 0 rfl) ?_
  refine lv_iload_n hx hb dL_law_162 rfl (lv_at hl 3 rfl) ?_
  refine lv_iconst (v := nI 1) hx hb dL_law_163 (by decide) ?_
  refine lv_iadd hx hb dL_law_164 ?_
  refine z_top (nI (k + 1)) (nI_add k 1) ?_
  refine va_sld hx hb hXs hbl hbA Y.2.2.2.1 (vp_in_nI (show k + 1 < L by omega) (by omega)) dL_law_165 ?_
  refine z_top (xs (k + 1)) (by rw [nI_clamp (by omega)]) ?_
  refine zL_callI1 (rest := [.int r1]) ⟨hx, hb, hml, hown, htsL⟩ Y (kX1_fetch l dC dI rM hM hN1 (xs (k + 1))) (cwV 1 htsL gL_law_X1_fetch rfl rfl rfl (by decide +kernel) ⟨Nat.le_of_ble_eq_true rfl, Nat.le_of_ble_eq_true rfl⟩) rfl hl.1 rfl (Nat.le_of_ble_eq_true rfl) dL_law_166 ⟨Nat.le_refl _, Nat.le_refl _⟩ (fun r2 u2 Hq lq hw2 Y => ?_)
  rw [spFetch_c hG] at hw2
  refine lv_icmp_eq (tgt := 506) hx hb dL_law_169 (by decide) (fun _ => ?_) (fun cq => absurd (hw1.1.trans hw2.1.symm) cq)
  exact kk _ _ _ _ _ (Rep_to (by omega) hN4 hw1.2) (Rep_to (by omega) hN4 hw2.2) Y
set_option maxHeartbeats 4000000 in
set_option maxRecDepth 100000 in
theorem law_c2 {p : Program} {l : Launch} {e : Env} {s : State} {m : MethodId} {below : List Frame} {meth : Method} {c : Code} {b L : Nat} {xs : Nat → Int32} {dC : Nat → ClassId} {dI : Nat → Nat → Nat} {g h : GE} {Q : State → Prop} (hL : L ≤ 2051) (C0 : lw_At p s m meth c b L xs) (hG : Ge h g) (hX : geS g = geW g) (hM : geS h = 8) (hM3 : gn3 h = 1600) (hM5 : gn5 h = 32) {k : Nat} (hk : k + 4 ≤ L) {a : AS} {u v : CS} (rX : Rep g k a u) (rM : Rep h k a v) {H : Heap} {locs : List Loc} (Y : zL dC dI g h (fun q => s.heap.size ≤ q) s.heap s u v H locs) {ls : Array Slot} (hl : lv_has ls 4 [(0, .ref b), (1, .ref (ga0 g)), (2, .ref (ga0 h)), (3, .int (nI k))])
    (kk : ∀ (a1 : AS) (u1 v1 : CS) (H1 : Heap) (locs1 : List Loc), Rep g (k + 4) a1 u1 → Rep h (k + 4) a1 v1 → zL dC dI g h (fun q => s.heap.size ≤ q) s.heap s u1 v1 H1 locs1 → W p l e room_1 s m #[Value.ref b] below meth c H1 locs1 600000 7302250 Q (F0 m 506 ls [])) : W p l e room_1 s m #[Value.ref b] below meth c H locs 600000 7302250 Q (F0 m 174 ls []) := by
  obtain ⟨hx, hb, hr, hml, hown, hts, hXs, hbl, hlocks, hgv⟩ := C0
  have hown : s.vm.findClass RL = some m.cls := hown
  have htsL : ∀ w ∈ wsL_law, w.before #[Value.ref b] s = true := fun w z => hts w (wsL_law_in w z)
  have hbA : ¬ (fun q : Nat => s.heap.size ≤ q) b := Nat.not_le.mpr hbl
  have hN1 : k + 1 < 2 ^ 20 := by omega
  have hN4 : k + 4 < 2 ^ 20 := by omega
  refine lv_aload_n hx hb dL_law_174 rfl (lv_at hl 1 rfl) ?_
  refine lv_aload_n hx hb dL_law_175 rfl (lv_at hl 0 rfl) ?_
  refine lv_iload_n hx hb dL_law_176 rfl (lv_at hl 3 rfl) ?_
  refine lv_iconst (v := nI 1) hx hb dL_law_177 (by decide) ?_
  refine lv_iadd hx hb dL_law_178 ?_
  refine z_top (nI (k + 1)) (nI_add k 1) ?_
  refine va_sld hx hb hXs hbl hbA Y.2.2.2.1 (vp_in_nI (show k + 1 < L by omega) (by omega)) dL_law_179 ?_
  refine z_top (xs (k + 1)) (by rw [nI_clamp (by omega)]) ?_
  refine zL_callI0 (rest := []) ⟨hx, hb, hml, hown, htsL⟩ Y (kX0_unpin l dC dI rX (xs (k + 1))) (cwV 1 htsL gL_law_X0_unpin rfl rfl rfl (by decide +kernel) ⟨Nat.le_of_ble_eq_true rfl, Nat.le_of_ble_eq_true rfl⟩) rfl hl.1 rfl (Nat.le_of_ble_eq_true rfl) dL_law_180 ⟨Nat.le_refl _, Nat.le_refl _⟩ (fun r1 u1 Hq lq hw1 Y => ?_)
  refine lv_aload_n hx hb dL_law_183 rfl (lv_at hl 2 rfl) ?_
  refine lv_aload_n hx hb dL_law_184 rfl (lv_at hl 0 rfl) ?_
  refine lv_iload_n hx hb dL_law_185 rfl (lv_at hl 3 rfl) ?_
  refine lv_iconst (v := nI 1) hx hb dL_law_186 (by decide) ?_
  refine lv_iadd hx hb dL_law_187 ?_
  refine z_top (nI (k + 1)) (nI_add k 1) ?_
  refine va_sld hx hb hXs hbl hbA Y.2.2.2.1 (vp_in_nI (show k + 1 < L by omega) (by omega)) dL_law_188 ?_
  refine z_top (xs (k + 1)) (by rw [nI_clamp (by omega)]) ?_
  refine zL_callI1 (rest := [.int r1]) ⟨hx, hb, hml, hown, htsL⟩ Y (kX1_unpin l dC dI rM (xs (k + 1))) (cwV 1 htsL gL_law_X1_unpin rfl rfl rfl (by decide +kernel) ⟨Nat.le_of_ble_eq_true rfl, Nat.le_of_ble_eq_true rfl⟩) rfl hl.1 rfl (Nat.le_of_ble_eq_true rfl) dL_law_189 ⟨Nat.le_refl _, Nat.le_refl _⟩ (fun r2 u2 Hq lq hw2 Y => ?_)
  rw [spUnpin_c hG] at hw2
  refine lv_icmp_eq (tgt := 506) hx hb dL_law_192 (by decide) (fun _ => ?_) (fun cq => absurd (hw1.1.trans hw2.1.symm) cq)
  exact kk _ _ _ _ _ (Rep_to (by omega) hN4 hw1.2) (Rep_to (by omega) hN4 hw2.2) Y
set_option maxHeartbeats 4000000 in
set_option maxRecDepth 100000 in
theorem law_c3 {p : Program} {l : Launch} {e : Env} {s : State} {m : MethodId} {below : List Frame} {meth : Method} {c : Code} {b L : Nat} {xs : Nat → Int32} {dC : Nat → ClassId} {dI : Nat → Nat → Nat} {g h : GE} {Q : State → Prop} (hL : L ≤ 2051) (C0 : lw_At p s m meth c b L xs) (hG : Ge h g) (hX : geS g = geW g) (hM : geS h = 8) (hM3 : gn3 h = 1600) (hM5 : gn5 h = 32) {k : Nat} (hk : k + 4 ≤ L) {a : AS} {u v : CS} (rX : Rep g k a u) (rM : Rep h k a v) {H : Heap} {locs : List Loc} (Y : zL dC dI g h (fun q => s.heap.size ≤ q) s.heap s u v H locs) {ls : Array Slot} (hl : lv_has ls 4 [(0, .ref b), (1, .ref (ga0 g)), (2, .ref (ga0 h)), (3, .int (nI k))])
    (kk : ∀ (a1 : AS) (u1 v1 : CS) (H1 : Heap) (locs1 : List Loc), Rep g (k + 4) a1 u1 → Rep h (k + 4) a1 v1 → zL dC dI g h (fun q => s.heap.size ≤ q) s.heap s u1 v1 H1 locs1 → W p l e room_1 s m #[Value.ref b] below meth c H1 locs1 600000 7302250 Q (F0 m 506 ls [])) : W p l e room_1 s m #[Value.ref b] below meth c H locs 600000 7302250 Q (F0 m 197 ls []) := by
  obtain ⟨hx, hb, hr, hml, hown, hts, hXs, hbl, hlocks, hgv⟩ := C0
  have hown : s.vm.findClass RL = some m.cls := hown
  have htsL : ∀ w ∈ wsL_law, w.before #[Value.ref b] s = true := fun w z => hts w (wsL_law_in w z)
  have hbA : ¬ (fun q : Nat => s.heap.size ≤ q) b := Nat.not_le.mpr hbl
  have hN1 : k + 1 < 2 ^ 20 := by omega
  have hN4 : k + 4 < 2 ^ 20 := by omega
  refine lv_aload_n hx hb dL_law_197 rfl (lv_at hl 1 rfl) ?_
  refine lv_aload_n hx hb dL_law_198 rfl (lv_at hl 0 rfl) ?_
  refine lv_iload_n hx hb dL_law_199 rfl (lv_at hl 3 rfl) ?_
  refine lv_iconst (v := nI 1) hx hb dL_law_200 (by decide) ?_
  refine lv_iadd hx hb dL_law_201 ?_
  refine z_top (nI (k + 1)) (nI_add k 1) ?_
  refine va_sld hx hb hXs hbl hbA Y.2.2.2.1 (vp_in_nI (show k + 1 < L by omega) (by omega)) dL_law_202 ?_
  refine z_top (xs (k + 1)) (by rw [nI_clamp (by omega)]) ?_
  refine lv_aload_n hx hb dL_law_203 rfl (lv_at hl 0 rfl) ?_
  refine lv_iload_n hx hb dL_law_204 rfl (lv_at hl 3 rfl) ?_
  refine lv_iconst (v := nI 2) hx hb dL_law_205 (by decide) ?_
  refine lv_iadd hx hb dL_law_206 ?_
  refine z_top (nI (k + 2)) (nI_add k 2) ?_
  refine va_sld hx hb hXs hbl hbA Y.2.2.2.1 (vp_in_nI (show k + 2 < L by omega) (by omega)) dL_law_207 ?_
  refine z_top (xs (k + 2)) (by rw [nI_clamp (by omega)]) ?_
  refine zL_callI0 (rest := []) ⟨hx, hb, hml, hown, htsL⟩ Y (kX0_readWord l dC dI rX hX (xs (k + 1)) (xs (k + 2))) (cwV 2 htsL gL_law_X0_readWord rfl rfl rfl (by decide +kernel) ⟨Nat.le_of_ble_eq_true rfl, Nat.le_of_ble_eq_true rfl⟩) rfl hl.1 rfl (Nat.le_of_ble_eq_true rfl) dL_law_208 ⟨Nat.le_refl _, Nat.le_refl _⟩ (fun r1 u1 Hq lq hw1 Y => ?_)
  obtain ⟨rfl, hw1⟩ := hw1
  refine lv_aload_n hx hb dL_law_211 rfl (lv_at hl 2 rfl) ?_
  refine lv_aload_n hx hb dL_law_212 rfl (lv_at hl 0 rfl) ?_
  refine lv_iload_n hx hb dL_law_213 rfl (lv_at hl 3 rfl) ?_
  refine lv_iconst (v := nI 1) hx hb dL_law_214 (by decide) ?_
  refine lv_iadd hx hb dL_law_215 ?_
  refine z_top (nI (k + 1)) (nI_add k 1) ?_
  refine va_sld hx hb hXs hbl hbA Y.2.2.2.1 (vp_in_nI (show k + 1 < L by omega) (by omega)) dL_law_216 ?_
  refine z_top (xs (k + 1)) (by rw [nI_clamp (by omega)]) ?_
  refine lv_aload_n hx hb dL_law_217 rfl (lv_at hl 0 rfl) ?_
  refine lv_iload_n hx hb dL_law_218 rfl (lv_at hl 3 rfl) ?_
  refine lv_iconst (v := nI 2) hx hb dL_law_219 (by decide) ?_
  refine lv_iadd hx hb dL_law_220 ?_
  refine z_top (nI (k + 2)) (nI_add k 2) ?_
  refine va_sld hx hb hXs hbl hbA Y.2.2.2.1 (vp_in_nI (show k + 2 < L by omega) (by omega)) dL_law_221 ?_
  refine z_top (xs (k + 2)) (by rw [nI_clamp (by omega)]) ?_
  refine zL_callI1 (rest := [.int r1]) ⟨hx, hb, hml, hown, htsL⟩ Y (kX1_readWord l dC dI rM hM (xs (k + 1)) (xs (k + 2))) (cwV 2 htsL gL_law_X1_readWord rfl rfl rfl (by decide +kernel) ⟨Nat.le_of_ble_eq_true rfl, Nat.le_of_ble_eq_true rfl⟩) rfl hl.1 rfl (Nat.le_of_ble_eq_true rfl) dL_law_222 ⟨Nat.le_refl _, Nat.le_refl _⟩ (fun r2 u2 Hq lq hw2 Y => ?_)
  obtain ⟨rfl, hw2⟩ := hw2
  rw [spReadW_c hG] at hw2
  refine lv_icmp_eq (tgt := 506) hx hb dL_law_225 (by decide) (fun _ => ?_) (fun cq => absurd (hw1.trans hw2.symm) cq)
  exact kk a _ _ _ _ (Rep_to (by omega) hN4 rX) (Rep_to (by omega) hN4 rM) Y
set_option maxHeartbeats 4000000 in
set_option maxRecDepth 100000 in
theorem law_c4 {p : Program} {l : Launch} {e : Env} {s : State} {m : MethodId} {below : List Frame} {meth : Method} {c : Code} {b L : Nat} {xs : Nat → Int32} {dC : Nat → ClassId} {dI : Nat → Nat → Nat} {g h : GE} {Q : State → Prop} (hL : L ≤ 2051) (C0 : lw_At p s m meth c b L xs) (hG : Ge h g) (hX : geS g = geW g) (hM : geS h = 8) (hM3 : gn3 h = 1600) (hM5 : gn5 h = 32) {k : Nat} (hk : k + 4 ≤ L) {a : AS} {u v : CS} (rX : Rep g k a u) (rM : Rep h k a v) {H : Heap} {locs : List Loc} (Y : zL dC dI g h (fun q => s.heap.size ≤ q) s.heap s u v H locs) {ls : Array Slot} (hl : lv_has ls 4 [(0, .ref b), (1, .ref (ga0 g)), (2, .ref (ga0 h)), (3, .int (nI k))])
    (kk : ∀ (a1 : AS) (u1 v1 : CS) (H1 : Heap) (locs1 : List Loc), Rep g (k + 4) a1 u1 → Rep h (k + 4) a1 v1 → zL dC dI g h (fun q => s.heap.size ≤ q) s.heap s u1 v1 H1 locs1 → W p l e room_1 s m #[Value.ref b] below meth c H1 locs1 600000 7302250 Q (F0 m 506 ls [])) : W p l e room_1 s m #[Value.ref b] below meth c H locs 600000 7302250 Q (F0 m 230 ls []) := by
  obtain ⟨hx, hb, hr, hml, hown, hts, hXs, hbl, hlocks, hgv⟩ := C0
  have hown : s.vm.findClass RL = some m.cls := hown
  have htsL : ∀ w ∈ wsL_law, w.before #[Value.ref b] s = true := fun w z => hts w (wsL_law_in w z)
  have hbA : ¬ (fun q : Nat => s.heap.size ≤ q) b := Nat.not_le.mpr hbl
  have hN1 : k + 1 < 2 ^ 20 := by omega
  have hN4 : k + 4 < 2 ^ 20 := by omega
  refine lv_aload_n hx hb dL_law_230 rfl (lv_at hl 1 rfl) ?_
  refine lv_aload_n hx hb dL_law_231 rfl (lv_at hl 0 rfl) ?_
  refine lv_iload_n hx hb dL_law_232 rfl (lv_at hl 3 rfl) ?_
  refine lv_iconst (v := nI 1) hx hb dL_law_233 (by decide) ?_
  refine lv_iadd hx hb dL_law_234 ?_
  refine z_top (nI (k + 1)) (nI_add k 1) ?_
  refine va_sld hx hb hXs hbl hbA Y.2.2.2.1 (vp_in_nI (show k + 1 < L by omega) (by omega)) dL_law_235 ?_
  refine z_top (xs (k + 1)) (by rw [nI_clamp (by omega)]) ?_
  refine lv_aload_n hx hb dL_law_236 rfl (lv_at hl 0 rfl) ?_
  refine lv_iload_n hx hb dL_law_237 rfl (lv_at hl 3 rfl) ?_
  refine lv_iconst (v := nI 2) hx hb dL_law_238 (by decide) ?_
  refine lv_iadd hx hb dL_law_239 ?_
  refine z_top (nI (k + 2)) (nI_add k 2) ?_
  refine va_sld hx hb hXs hbl hbA Y.2.2.2.1 (vp_in_nI (show k + 2 < L by omega) (by omega)) dL_law_240 ?_
  refine z_top (xs (k + 2)) (by rw [nI_clamp (by omega)]) ?_
  refine lv_aload_n hx hb dL_law_241 rfl (lv_at hl 0 rfl) ?_
  refine lv_iload_n hx hb dL_law_242 rfl (lv_at hl 3 rfl) ?_
  refine lv_iconst (v := nI 3) hx hb dL_law_243 (by decide) ?_
  refine lv_iadd hx hb dL_law_244 ?_
  refine z_top (nI (k + 3)) (nI_add k 3) ?_
  refine va_sld hx hb hXs hbl hbA Y.2.2.2.1 (vp_in_nI (show k + 3 < L by omega) (by omega)) dL_law_245 ?_
  refine z_top (xs (k + 3)) (by rw [nI_clamp (by omega)]) ?_
  refine zL_callI0 (rest := []) ⟨hx, hb, hml, hown, htsL⟩ Y (kX0_writeWord l dC dI rX hX (xs (k + 1)) (xs (k + 2)) (xs (k + 3))) (cwV 3 htsL gL_law_X0_writeWord rfl rfl rfl (by decide +kernel) ⟨Nat.le_of_ble_eq_true rfl, Nat.le_of_ble_eq_true rfl⟩) rfl hl.1 rfl (Nat.le_of_ble_eq_true rfl) dL_law_246 ⟨Nat.le_refl _, Nat.le_refl _⟩ (fun r1 u1 Hq lq hw1 Y => ?_)
  refine lv_aload_n hx hb dL_law_249 rfl (lv_at hl 2 rfl) ?_
  refine lv_aload_n hx hb dL_law_250 rfl (lv_at hl 0 rfl) ?_
  refine lv_iload_n hx hb dL_law_251 rfl (lv_at hl 3 rfl) ?_
  refine lv_iconst (v := nI 1) hx hb dL_law_252 (by decide) ?_
  refine lv_iadd hx hb dL_law_253 ?_
  refine z_top (nI (k + 1)) (nI_add k 1) ?_
  refine va_sld hx hb hXs hbl hbA Y.2.2.2.1 (vp_in_nI (show k + 1 < L by omega) (by omega)) dL_law_254 ?_
  refine z_top (xs (k + 1)) (by rw [nI_clamp (by omega)]) ?_
  refine lv_aload_n hx hb dL_law_255 rfl (lv_at hl 0 rfl) ?_
  refine lv_iload_n hx hb dL_law_256 rfl (lv_at hl 3 rfl) ?_
  refine lv_iconst (v := nI 2) hx hb dL_law_257 (by decide) ?_
  refine lv_iadd hx hb dL_law_258 ?_
  refine z_top (nI (k + 2)) (nI_add k 2) ?_
  refine va_sld hx hb hXs hbl hbA Y.2.2.2.1 (vp_in_nI (show k + 2 < L by omega) (by omega)) dL_law_259 ?_
  refine z_top (xs (k + 2)) (by rw [nI_clamp (by omega)]) ?_
  refine lv_aload_n hx hb dL_law_260 rfl (lv_at hl 0 rfl) ?_
  refine lv_iload_n hx hb dL_law_261 rfl (lv_at hl 3 rfl) ?_
  refine lv_iconst (v := nI 3) hx hb dL_law_262 (by decide) ?_
  refine lv_iadd hx hb dL_law_263 ?_
  refine z_top (nI (k + 3)) (nI_add k 3) ?_
  refine va_sld hx hb hXs hbl hbA Y.2.2.2.1 (vp_in_nI (show k + 3 < L by omega) (by omega)) dL_law_264 ?_
  refine z_top (xs (k + 3)) (by rw [nI_clamp (by omega)]) ?_
  refine zL_callI1 (rest := [.int r1]) ⟨hx, hb, hml, hown, htsL⟩ Y (kX1_writeWord l dC dI rM hM (xs (k + 1)) (xs (k + 2)) (xs (k + 3))) (cwV 3 htsL gL_law_X1_writeWord rfl rfl rfl (by decide +kernel) ⟨Nat.le_of_ble_eq_true rfl, Nat.le_of_ble_eq_true rfl⟩) rfl hl.1 rfl (Nat.le_of_ble_eq_true rfl) dL_law_265 ⟨Nat.le_refl _, Nat.le_refl _⟩ (fun r2 u2 Hq lq hw2 Y => ?_)
  rw [spWriteW_c hG] at hw2
  refine lv_icmp_eq (tgt := 506) hx hb dL_law_268 (by decide) (fun _ => ?_) (fun cq => absurd (hw1.1.trans hw2.1.symm) cq)
  exact kk _ _ _ _ _ (Rep_to (by omega) hN4 hw1.2) (Rep_to (by omega) hN4 hw2.2) Y
set_option maxHeartbeats 4000000 in
set_option maxRecDepth 100000 in
theorem law_c5 {p : Program} {l : Launch} {e : Env} {s : State} {m : MethodId} {below : List Frame} {meth : Method} {c : Code} {b L : Nat} {xs : Nat → Int32} {dC : Nat → ClassId} {dI : Nat → Nat → Nat} {g h : GE} {Q : State → Prop} (hL : L ≤ 2051) (C0 : lw_At p s m meth c b L xs) (hG : Ge h g) (hX : geS g = geW g) (hM : geS h = 8) (hM3 : gn3 h = 1600) (hM5 : gn5 h = 32) {k : Nat} (hk : k + 4 ≤ L) {a : AS} {u v : CS} (rX : Rep g k a u) (rM : Rep h k a v) {H : Heap} {locs : List Loc} (Y : zL dC dI g h (fun q => s.heap.size ≤ q) s.heap s u v H locs) {ls : Array Slot} (hl : lv_has ls 4 [(0, .ref b), (1, .ref (ga0 g)), (2, .ref (ga0 h)), (3, .int (nI k))])
    (kk : ∀ (a1 : AS) (u1 v1 : CS) (H1 : Heap) (locs1 : List Loc), Rep g (k + 4) a1 u1 → Rep h (k + 4) a1 v1 → zL dC dI g h (fun q => s.heap.size ≤ q) s.heap s u1 v1 H1 locs1 → W p l e room_1 s m #[Value.ref b] below meth c H1 locs1 600000 7302250 Q (F0 m 506 ls [])) : W p l e room_1 s m #[Value.ref b] below meth c H locs 600000 7302250 Q (F0 m 273 ls []) := by
  obtain ⟨hx, hb, hr, hml, hown, hts, hXs, hbl, hlocks, hgv⟩ := C0
  have hown : s.vm.findClass RL = some m.cls := hown
  have htsL : ∀ w ∈ wsL_law, w.before #[Value.ref b] s = true := fun w z => hts w (wsL_law_in w z)
  have hbA : ¬ (fun q : Nat => s.heap.size ≤ q) b := Nat.not_le.mpr hbl
  have hN1 : k + 1 < 2 ^ 20 := by omega
  have hN4 : k + 4 < 2 ^ 20 := by omega
  refine lv_aload_n hx hb dL_law_273 rfl (lv_at hl 1 rfl) ?_
  refine lv_aload_n hx hb dL_law_274 rfl (lv_at hl 0 rfl) ?_
  refine lv_iload_n hx hb dL_law_275 rfl (lv_at hl 3 rfl) ?_
  refine lv_iconst (v := nI 1) hx hb dL_law_276 (by decide) ?_
  refine lv_iadd hx hb dL_law_277 ?_
  refine z_top (nI (k + 1)) (nI_add k 1) ?_
  refine va_sld hx hb hXs hbl hbA Y.2.2.2.1 (vp_in_nI (show k + 1 < L by omega) (by omega)) dL_law_278 ?_
  refine z_top (xs (k + 1)) (by rw [nI_clamp (by omega)]) ?_
  refine zL_callI0 (rest := []) ⟨hx, hb, hml, hown, htsL⟩ Y (kX0_flush l dC dI rX hX (xs (k + 1))) (cwV 1 htsL gL_law_X0_flush rfl rfl rfl (by decide +kernel) ⟨Nat.le_of_ble_eq_true rfl, Nat.le_of_ble_eq_true rfl⟩) rfl hl.1 rfl (Nat.le_of_ble_eq_true rfl) dL_law_279 ⟨Nat.le_refl _, Nat.le_refl _⟩ (fun r1 u1 Hq lq hw1 Y => ?_)
  refine lv_aload_n hx hb dL_law_282 rfl (lv_at hl 2 rfl) ?_
  refine lv_aload_n hx hb dL_law_283 rfl (lv_at hl 0 rfl) ?_
  refine lv_iload_n hx hb dL_law_284 rfl (lv_at hl 3 rfl) ?_
  refine lv_iconst (v := nI 1) hx hb dL_law_285 (by decide) ?_
  refine lv_iadd hx hb dL_law_286 ?_
  refine z_top (nI (k + 1)) (nI_add k 1) ?_
  refine va_sld hx hb hXs hbl hbA Y.2.2.2.1 (vp_in_nI (show k + 1 < L by omega) (by omega)) dL_law_287 ?_
  refine z_top (xs (k + 1)) (by rw [nI_clamp (by omega)]) ?_
  refine zL_callI1 (rest := [.int r1]) ⟨hx, hb, hml, hown, htsL⟩ Y (kX1_flush l dC dI rM hM (xs (k + 1))) (cwV 1 htsL gL_law_X1_flush rfl rfl rfl (by decide +kernel) ⟨Nat.le_of_ble_eq_true rfl, Nat.le_of_ble_eq_true rfl⟩) rfl hl.1 rfl (Nat.le_of_ble_eq_true rfl) dL_law_288 ⟨Nat.le_refl _, Nat.le_refl _⟩ (fun r2 u2 Hq lq hw2 Y => ?_)
  rw [spFlush_c hG] at hw2
  refine lv_icmp_eq (tgt := 506) hx hb dL_law_291 (by decide) (fun _ => ?_) (fun cq => absurd (hw1.1.trans hw2.1.symm) cq)
  exact kk _ _ _ _ _ (Rep_to (by omega) hN4 hw1.2) (Rep_to (by omega) hN4 hw2.2) Y
set_option maxHeartbeats 4000000 in
set_option maxRecDepth 100000 in
theorem law_c6 {p : Program} {l : Launch} {e : Env} {s : State} {m : MethodId} {below : List Frame} {meth : Method} {c : Code} {b L : Nat} {xs : Nat → Int32} {dC : Nat → ClassId} {dI : Nat → Nat → Nat} {g h : GE} {Q : State → Prop} (hL : L ≤ 2051) (C0 : lw_At p s m meth c b L xs) (hG : Ge h g) (hX : geS g = geW g) (hM : geS h = 8) (hM3 : gn3 h = 1600) (hM5 : gn5 h = 32) {k : Nat} (hk : k + 4 ≤ L) {a : AS} {u v : CS} (rX : Rep g k a u) (rM : Rep h k a v) {H : Heap} {locs : List Loc} (Y : zL dC dI g h (fun q => s.heap.size ≤ q) s.heap s u v H locs) {ls : Array Slot} (hl : lv_has ls 4 [(0, .ref b), (1, .ref (ga0 g)), (2, .ref (ga0 h)), (3, .int (nI k))])
    (kk : ∀ (a1 : AS) (u1 v1 : CS) (H1 : Heap) (locs1 : List Loc), Rep g (k + 4) a1 u1 → Rep h (k + 4) a1 v1 → zL dC dI g h (fun q => s.heap.size ≤ q) s.heap s u1 v1 H1 locs1 → W p l e room_1 s m #[Value.ref b] below meth c H1 locs1 600000 7302250 Q (F0 m 506 ls [])) : W p l e room_1 s m #[Value.ref b] below meth c H locs 600000 7302250 Q (F0 m 296 ls []) := by
  obtain ⟨hx, hb, hr, hml, hown, hts, hXs, hbl, hlocks, hgv⟩ := C0
  have hown : s.vm.findClass RL = some m.cls := hown
  have htsL : ∀ w ∈ wsL_law, w.before #[Value.ref b] s = true := fun w z => hts w (wsL_law_in w z)
  have hbA : ¬ (fun q : Nat => s.heap.size ≤ q) b := Nat.not_le.mpr hbl
  have hN1 : k + 1 < 2 ^ 20 := by omega
  have hN4 : k + 4 < 2 ^ 20 := by omega
  refine lv_aload_n hx hb dL_law_296 rfl (lv_at hl 1 rfl) ?_
  refine zL_callI0 (rest := []) ⟨hx, hb, hml, hown, htsL⟩ Y (kX0_flushAll l dC dI rX hX) (cwV 0 htsL gL_law_X0_flushAll rfl rfl rfl (by decide +kernel) ⟨Nat.le_of_ble_eq_true rfl, Nat.le_of_ble_eq_true rfl⟩) rfl hl.1 rfl (Nat.le_of_ble_eq_true rfl) dL_law_297 ⟨Nat.le_refl _, Nat.le_refl _⟩ (fun r1 u1 Hq lq hw1 Y => ?_)
  refine lv_aload_n hx hb dL_law_300 rfl (lv_at hl 2 rfl) ?_
  refine zL_callI1 (rest := [.int r1]) ⟨hx, hb, hml, hown, htsL⟩ Y (kX1_flushAll l dC dI rM hM) (cwV 0 htsL gL_law_X1_flushAll rfl rfl rfl (by decide +kernel) ⟨Nat.le_of_ble_eq_true rfl, Nat.le_of_ble_eq_true rfl⟩) rfl hl.1 rfl (Nat.le_of_ble_eq_true rfl) dL_law_301 ⟨Nat.le_refl _, Nat.le_refl _⟩ (fun r2 u2 Hq lq hw2 Y => ?_)
  rw [hG.1] at hw2
  refine lv_icmp_eq (tgt := 506) hx hb dL_law_304 (by decide) (fun _ => ?_) (fun cq => absurd (hw1.1.trans hw2.1.symm) cq)
  exact kk _ _ _ _ _ (Rep_to (by omega) hN4 hw1.2) (Rep_to (by omega) hN4 hw2.2) Y
set_option maxHeartbeats 4000000 in
set_option maxRecDepth 100000 in
theorem law_c7 {p : Program} {l : Launch} {e : Env} {s : State} {m : MethodId} {below : List Frame} {meth : Method} {c : Code} {b L : Nat} {xs : Nat → Int32} {dC : Nat → ClassId} {dI : Nat → Nat → Nat} {g h : GE} {Q : State → Prop} (hL : L ≤ 2051) (C0 : lw_At p s m meth c b L xs) (hG : Ge h g) (hX : geS g = geW g) (hM : geS h = 8) (hM3 : gn3 h = 1600) (hM5 : gn5 h = 32) {k : Nat} (hk : k + 4 ≤ L) {a : AS} {u v : CS} (rX : Rep g k a u) (rM : Rep h k a v) {H : Heap} {locs : List Loc} (Y : zL dC dI g h (fun q => s.heap.size ≤ q) s.heap s u v H locs) {ls : Array Slot} (hl : lv_has ls 4 [(0, .ref b), (1, .ref (ga0 g)), (2, .ref (ga0 h)), (3, .int (nI k))])
    (kk : ∀ (a1 : AS) (u1 v1 : CS) (H1 : Heap) (locs1 : List Loc), Rep g (k + 4) a1 u1 → Rep h (k + 4) a1 v1 → zL dC dI g h (fun q => s.heap.size ≤ q) s.heap s u1 v1 H1 locs1 → W p l e room_1 s m #[Value.ref b] below meth c H1 locs1 600000 7302250 Q (F0 m 506 ls [])) : W p l e room_1 s m #[Value.ref b] below meth c H locs 600000 7302250 Q (F0 m 309 ls []) := by
  obtain ⟨hx, hb, hr, hml, hown, hts, hXs, hbl, hlocks, hgv⟩ := C0
  have hown : s.vm.findClass RL = some m.cls := hown
  have htsL : ∀ w ∈ wsL_law, w.before #[Value.ref b] s = true := fun w z => hts w (wsL_law_in w z)
  have hbA : ¬ (fun q : Nat => s.heap.size ≤ q) b := Nat.not_le.mpr hbl
  have hN1 : k + 1 < 2 ^ 20 := by omega
  have hN4 : k + 4 < 2 ^ 20 := by omega
  refine lv_aload_n hx hb dL_law_309 rfl (lv_at hl 1 rfl) ?_
  refine lv_aload_n hx hb dL_law_310 rfl (lv_at hl 0 rfl) ?_
  refine lv_iload_n hx hb dL_law_311 rfl (lv_at hl 3 rfl) ?_
  refine lv_iconst (v := nI 1) hx hb dL_law_312 (by decide) ?_
  refine lv_iadd hx hb dL_law_313 ?_
  refine z_top (nI (k + 1)) (nI_add k 1) ?_
  refine va_sld hx hb hXs hbl hbA Y.2.2.2.1 (vp_in_nI (show k + 1 < L by omega) (by omega)) dL_law_314 ?_
  refine z_top (xs (k + 1)) (by rw [nI_clamp (by omega)]) ?_
  refine zL_callI0 (rest := []) ⟨hx, hb, hml, hown, htsL⟩ Y (kX0_drop l dC dI rX (xs (k + 1))) (cwV 1 htsL gL_law_X0_drop rfl rfl rfl (by decide +kernel) ⟨Nat.le_of_ble_eq_true rfl, Nat.le_of_ble_eq_true rfl⟩) rfl hl.1 rfl (Nat.le_of_ble_eq_true rfl) dL_law_315 ⟨Nat.le_refl _, Nat.le_refl _⟩ (fun r1 u1 Hq lq hw1 Y => ?_)
  refine lv_aload_n hx hb dL_law_318 rfl (lv_at hl 2 rfl) ?_
  refine lv_aload_n hx hb dL_law_319 rfl (lv_at hl 0 rfl) ?_
  refine lv_iload_n hx hb dL_law_320 rfl (lv_at hl 3 rfl) ?_
  refine lv_iconst (v := nI 1) hx hb dL_law_321 (by decide) ?_
  refine lv_iadd hx hb dL_law_322 ?_
  refine z_top (nI (k + 1)) (nI_add k 1) ?_
  refine va_sld hx hb hXs hbl hbA Y.2.2.2.1 (vp_in_nI (show k + 1 < L by omega) (by omega)) dL_law_323 ?_
  refine z_top (xs (k + 1)) (by rw [nI_clamp (by omega)]) ?_
  refine zL_callI1 (rest := [.int r1]) ⟨hx, hb, hml, hown, htsL⟩ Y (kX1_drop l dC dI rM (xs (k + 1))) (cwV 1 htsL gL_law_X1_drop rfl rfl rfl (by decide +kernel) ⟨Nat.le_of_ble_eq_true rfl, Nat.le_of_ble_eq_true rfl⟩) rfl hl.1 rfl (Nat.le_of_ble_eq_true rfl) dL_law_324 ⟨Nat.le_refl _, Nat.le_refl _⟩ (fun r2 u2 Hq lq hw2 Y => ?_)
  rw [spDrop_c hG] at hw2
  refine lv_icmp_eq (tgt := 506) hx hb dL_law_327 (by decide) (fun _ => ?_) (fun cq => absurd (hw1.1.trans hw2.1.symm) cq)
  exact kk _ _ _ _ _ (Rep_to (by omega) hN4 hw1.2) (Rep_to (by omega) hN4 hw2.2) Y
set_option maxHeartbeats 4000000 in
set_option maxRecDepth 100000 in
theorem law_c8 {p : Program} {l : Launch} {e : Env} {s : State} {m : MethodId} {below : List Frame} {meth : Method} {c : Code} {b L : Nat} {xs : Nat → Int32} {dC : Nat → ClassId} {dI : Nat → Nat → Nat} {g h : GE} {Q : State → Prop} (hL : L ≤ 2051) (C0 : lw_At p s m meth c b L xs) (hG : Ge h g) (hX : geS g = geW g) (hM : geS h = 8) (hM3 : gn3 h = 1600) (hM5 : gn5 h = 32) {k : Nat} (hk : k + 4 ≤ L) {a : AS} {u v : CS} (rX : Rep g k a u) (rM : Rep h k a v) {H : Heap} {locs : List Loc} (Y : zL dC dI g h (fun q => s.heap.size ≤ q) s.heap s u v H locs) {ls : Array Slot} (hl : lv_has ls 4 [(0, .ref b), (1, .ref (ga0 g)), (2, .ref (ga0 h)), (3, .int (nI k))])
    (kk : ∀ (a1 : AS) (u1 v1 : CS) (H1 : Heap) (locs1 : List Loc), Rep g (k + 4) a1 u1 → Rep h (k + 4) a1 v1 → zL dC dI g h (fun q => s.heap.size ≤ q) s.heap s u1 v1 H1 locs1 → W p l e room_1 s m #[Value.ref b] below meth c H1 locs1 600000 7302250 Q (F0 m 506 ls [])) : W p l e room_1 s m #[Value.ref b] below meth c H locs 600000 7302250 Q (F0 m 332 ls []) := by
  obtain ⟨hx, hb, hr, hml, hown, hts, hXs, hbl, hlocks, hgv⟩ := C0
  have hown : s.vm.findClass RL = some m.cls := hown
  have htsL : ∀ w ∈ wsL_law, w.before #[Value.ref b] s = true := fun w z => hts w (wsL_law_in w z)
  have hbA : ¬ (fun q : Nat => s.heap.size ≤ q) b := Nat.not_le.mpr hbl
  have hN1 : k + 1 < 2 ^ 20 := by omega
  have hN4 : k + 4 < 2 ^ 20 := by omega
  refine lv_aload_n hx hb dL_law_332 rfl (lv_at hl 1 rfl) ?_
  refine lv_aload_n hx hb dL_law_333 rfl (lv_at hl 0 rfl) ?_
  refine lv_iload_n hx hb dL_law_334 rfl (lv_at hl 3 rfl) ?_
  refine lv_iconst (v := nI 1) hx hb dL_law_335 (by decide) ?_
  refine lv_iadd hx hb dL_law_336 ?_
  refine z_top (nI (k + 1)) (nI_add k 1) ?_
  refine va_sld hx hb hXs hbl hbA Y.2.2.2.1 (vp_in_nI (show k + 1 < L by omega) (by omega)) dL_law_337 ?_
  refine z_top (xs (k + 1)) (by rw [nI_clamp (by omega)]) ?_
  refine lv_aload_n hx hb dL_law_338 rfl (lv_at hl 0 rfl) ?_
  refine lv_iload_n hx hb dL_law_339 rfl (lv_at hl 3 rfl) ?_
  refine lv_iconst (v := nI 2) hx hb dL_law_340 (by decide) ?_
  refine lv_iadd hx hb dL_law_341 ?_
  refine z_top (nI (k + 2)) (nI_add k 2) ?_
  refine va_sld hx hb hXs hbl hbA Y.2.2.2.1 (vp_in_nI (show k + 2 < L by omega) (by omega)) dL_law_342 ?_
  refine z_top (xs (k + 2)) (by rw [nI_clamp (by omega)]) ?_
  refine zL_callI0 (rest := []) ⟨hx, hb, hml, hown, htsL⟩ Y (kX0_copy l dC dI rX hX (xs (k + 1)) (xs (k + 2))) (cwV 2 htsL gL_law_X0_copy rfl rfl rfl (by decide +kernel) ⟨Nat.le_of_ble_eq_true rfl, Nat.le_of_ble_eq_true rfl⟩) rfl hl.1 rfl (Nat.le_of_ble_eq_true rfl) dL_law_343 ⟨Nat.le_refl _, Nat.le_refl _⟩ (fun r1 u1 Hq lq hw1 Y => ?_)
  refine lv_aload_n hx hb dL_law_346 rfl (lv_at hl 2 rfl) ?_
  refine lv_aload_n hx hb dL_law_347 rfl (lv_at hl 0 rfl) ?_
  refine lv_iload_n hx hb dL_law_348 rfl (lv_at hl 3 rfl) ?_
  refine lv_iconst (v := nI 1) hx hb dL_law_349 (by decide) ?_
  refine lv_iadd hx hb dL_law_350 ?_
  refine z_top (nI (k + 1)) (nI_add k 1) ?_
  refine va_sld hx hb hXs hbl hbA Y.2.2.2.1 (vp_in_nI (show k + 1 < L by omega) (by omega)) dL_law_351 ?_
  refine z_top (xs (k + 1)) (by rw [nI_clamp (by omega)]) ?_
  refine lv_aload_n hx hb dL_law_352 rfl (lv_at hl 0 rfl) ?_
  refine lv_iload_n hx hb dL_law_353 rfl (lv_at hl 3 rfl) ?_
  refine lv_iconst (v := nI 2) hx hb dL_law_354 (by decide) ?_
  refine lv_iadd hx hb dL_law_355 ?_
  refine z_top (nI (k + 2)) (nI_add k 2) ?_
  refine va_sld hx hb hXs hbl hbA Y.2.2.2.1 (vp_in_nI (show k + 2 < L by omega) (by omega)) dL_law_356 ?_
  refine z_top (xs (k + 2)) (by rw [nI_clamp (by omega)]) ?_
  refine zL_callI1 (rest := [.int r1]) ⟨hx, hb, hml, hown, htsL⟩ Y (kX1_copy l dC dI rM hM (xs (k + 1)) (xs (k + 2))) (cwV 2 htsL gL_law_X1_copy rfl rfl rfl (by decide +kernel) ⟨Nat.le_of_ble_eq_true rfl, Nat.le_of_ble_eq_true rfl⟩) rfl hl.1 rfl (Nat.le_of_ble_eq_true rfl) dL_law_357 ⟨Nat.le_refl _, Nat.le_refl _⟩ (fun r2 u2 Hq lq hw2 Y => ?_)
  rw [spCopy_c hG] at hw2
  refine lv_icmp_eq (tgt := 506) hx hb dL_law_360 (by decide) (fun _ => ?_) (fun cq => absurd (hw1.1.trans hw2.1.symm) cq)
  exact kk _ _ _ _ _ (Rep_to (by omega) hN4 hw1.2) (Rep_to (by omega) hN4 hw2.2) Y
set_option maxHeartbeats 4000000 in
set_option maxRecDepth 100000 in
theorem law_c9 {p : Program} {l : Launch} {e : Env} {s : State} {m : MethodId} {below : List Frame} {meth : Method} {c : Code} {b L : Nat} {xs : Nat → Int32} {dC : Nat → ClassId} {dI : Nat → Nat → Nat} {g h : GE} {Q : State → Prop} (hL : L ≤ 2051) (C0 : lw_At p s m meth c b L xs) (hG : Ge h g) (hX : geS g = geW g) (hM : geS h = 8) (hM3 : gn3 h = 1600) (hM5 : gn5 h = 32) {k : Nat} (hk : k + 4 ≤ L) {a : AS} {u v : CS} (rX : Rep g k a u) (rM : Rep h k a v) {H : Heap} {locs : List Loc} (Y : zL dC dI g h (fun q => s.heap.size ≤ q) s.heap s u v H locs) {ls : Array Slot} (hl : lv_has ls 4 [(0, .ref b), (1, .ref (ga0 g)), (2, .ref (ga0 h)), (3, .int (nI k))])
    (kk : ∀ (a1 : AS) (u1 v1 : CS) (H1 : Heap) (locs1 : List Loc), Rep g (k + 4) a1 u1 → Rep h (k + 4) a1 v1 → zL dC dI g h (fun q => s.heap.size ≤ q) s.heap s u1 v1 H1 locs1 → W p l e room_1 s m #[Value.ref b] below meth c H1 locs1 600000 7302250 Q (F0 m 506 ls [])) : W p l e room_1 s m #[Value.ref b] below meth c H locs 600000 7302250 Q (F0 m 365 ls []) := by
  obtain ⟨hx, hb, hr, hml, hown, hts, hXs, hbl, hlocks, hgv⟩ := C0
  have hown : s.vm.findClass RL = some m.cls := hown
  have htsL : ∀ w ∈ wsL_law, w.before #[Value.ref b] s = true := fun w z => hts w (wsL_law_in w z)
  have hbA : ¬ (fun q : Nat => s.heap.size ≤ q) b := Nat.not_le.mpr hbl
  have hN1 : k + 1 < 2 ^ 20 := by omega
  have hN4 : k + 4 < 2 ^ 20 := by omega
  refine lv_aload_n hx hb dL_law_365 rfl (lv_at hl 1 rfl) ?_
  refine lv_aload_n hx hb dL_law_366 rfl (lv_at hl 0 rfl) ?_
  refine lv_iload_n hx hb dL_law_367 rfl (lv_at hl 3 rfl) ?_
  refine lv_iconst (v := nI 1) hx hb dL_law_368 (by decide) ?_
  refine lv_iadd hx hb dL_law_369 ?_
  refine z_top (nI (k + 1)) (nI_add k 1) ?_
  refine va_sld hx hb hXs hbl hbA Y.2.2.2.1 (vp_in_nI (show k + 1 < L by omega) (by omega)) dL_law_370 ?_
  refine z_top (xs (k + 1)) (by rw [nI_clamp (by omega)]) ?_
  refine lv_aload_n hx hb dL_law_371 rfl (lv_at hl 0 rfl) ?_
  refine lv_iload_n hx hb dL_law_372 rfl (lv_at hl 3 rfl) ?_
  refine lv_iconst (v := nI 2) hx hb dL_law_373 (by decide) ?_
  refine lv_iadd hx hb dL_law_374 ?_
  refine z_top (nI (k + 2)) (nI_add k 2) ?_
  refine va_sld hx hb hXs hbl hbA Y.2.2.2.1 (vp_in_nI (show k + 2 < L by omega) (by omega)) dL_law_375 ?_
  refine z_top (xs (k + 2)) (by rw [nI_clamp (by omega)]) ?_
  refine zL_callI0 (rest := []) ⟨hx, hb, hml, hown, htsL⟩ Y (kX0_diskWord l dC dI rX hX (xs (k + 1)) (xs (k + 2))) (cwV 2 htsL gL_law_X0_diskWord rfl rfl rfl (by decide +kernel) ⟨Nat.le_of_ble_eq_true rfl, Nat.le_of_ble_eq_true rfl⟩) rfl hl.1 rfl (Nat.le_of_ble_eq_true rfl) dL_law_376 ⟨Nat.le_refl _, Nat.le_refl _⟩ (fun r1 u1 Hq lq hw1 Y => ?_)
  obtain ⟨rfl, hw1⟩ := hw1
  refine lv_aload_n hx hb dL_law_379 rfl (lv_at hl 2 rfl) ?_
  refine lv_aload_n hx hb dL_law_380 rfl (lv_at hl 0 rfl) ?_
  refine lv_iload_n hx hb dL_law_381 rfl (lv_at hl 3 rfl) ?_
  refine lv_iconst (v := nI 1) hx hb dL_law_382 (by decide) ?_
  refine lv_iadd hx hb dL_law_383 ?_
  refine z_top (nI (k + 1)) (nI_add k 1) ?_
  refine va_sld hx hb hXs hbl hbA Y.2.2.2.1 (vp_in_nI (show k + 1 < L by omega) (by omega)) dL_law_384 ?_
  refine z_top (xs (k + 1)) (by rw [nI_clamp (by omega)]) ?_
  refine lv_aload_n hx hb dL_law_385 rfl (lv_at hl 0 rfl) ?_
  refine lv_iload_n hx hb dL_law_386 rfl (lv_at hl 3 rfl) ?_
  refine lv_iconst (v := nI 2) hx hb dL_law_387 (by decide) ?_
  refine lv_iadd hx hb dL_law_388 ?_
  refine z_top (nI (k + 2)) (nI_add k 2) ?_
  refine va_sld hx hb hXs hbl hbA Y.2.2.2.1 (vp_in_nI (show k + 2 < L by omega) (by omega)) dL_law_389 ?_
  refine z_top (xs (k + 2)) (by rw [nI_clamp (by omega)]) ?_
  refine zL_callI1 (rest := [.int r1]) ⟨hx, hb, hml, hown, htsL⟩ Y (kX1_diskWord l dC dI rM hM (xs (k + 1)) (xs (k + 2))) (cwV 2 htsL gL_law_X1_diskWord rfl rfl rfl (by decide +kernel) ⟨Nat.le_of_ble_eq_true rfl, Nat.le_of_ble_eq_true rfl⟩) rfl hl.1 rfl (Nat.le_of_ble_eq_true rfl) dL_law_390 ⟨Nat.le_refl _, Nat.le_refl _⟩ (fun r2 u2 Hq lq hw2 Y => ?_)
  obtain ⟨rfl, hw2⟩ := hw2
  rw [spDiskW_c hG] at hw2
  refine lv_icmp_eq (tgt := 506) hx hb dL_law_393 (by decide) (fun _ => ?_) (fun cq => absurd (hw1.trans hw2.symm) cq)
  exact kk a _ _ _ _ (Rep_to (by omega) hN4 rX) (Rep_to (by omega) hN4 rM) Y
set_option maxHeartbeats 4000000 in
set_option maxRecDepth 100000 in
theorem law_c10 {p : Program} {l : Launch} {e : Env} {s : State} {m : MethodId} {below : List Frame} {meth : Method} {c : Code} {b L : Nat} {xs : Nat → Int32} {dC : Nat → ClassId} {dI : Nat → Nat → Nat} {g h : GE} {Q : State → Prop} (hL : L ≤ 2051) (C0 : lw_At p s m meth c b L xs) (hG : Ge h g) (hX : geS g = geW g) (hM : geS h = 8) (hM3 : gn3 h = 1600) (hM5 : gn5 h = 32) {k : Nat} (hk : k + 4 ≤ L) {a : AS} {u v : CS} (rX : Rep g k a u) (rM : Rep h k a v) {H : Heap} {locs : List Loc} (Y : zL dC dI g h (fun q => s.heap.size ≤ q) s.heap s u v H locs) {ls : Array Slot} (hl : lv_has ls 4 [(0, .ref b), (1, .ref (ga0 g)), (2, .ref (ga0 h)), (3, .int (nI k))])
    (kk : ∀ (a1 : AS) (u1 v1 : CS) (H1 : Heap) (locs1 : List Loc), Rep g (k + 4) a1 u1 → Rep h (k + 4) a1 v1 → zL dC dI g h (fun q => s.heap.size ≤ q) s.heap s u1 v1 H1 locs1 → W p l e room_1 s m #[Value.ref b] below meth c H1 locs1 600000 7302250 Q (F0 m 506 ls [])) : W p l e room_1 s m #[Value.ref b] below meth c H locs 600000 7302250 Q (F0 m 398 ls []) := by
  obtain ⟨hx, hb, hr, hml, hown, hts, hXs, hbl, hlocks, hgv⟩ := C0
  have hown : s.vm.findClass RL = some m.cls := hown
  have htsL : ∀ w ∈ wsL_law, w.before #[Value.ref b] s = true := fun w z => hts w (wsL_law_in w z)
  have hbA : ¬ (fun q : Nat => s.heap.size ≤ q) b := Nat.not_le.mpr hbl
  have hN1 : k + 1 < 2 ^ 20 := by omega
  have hN4 : k + 4 < 2 ^ 20 := by omega
  refine lv_aload_n hx hb dL_law_398 rfl (lv_at hl 1 rfl) ?_
  refine lv_aload_n hx hb dL_law_399 rfl (lv_at hl 0 rfl) ?_
  refine lv_iload_n hx hb dL_law_400 rfl (lv_at hl 3 rfl) ?_
  refine lv_iconst (v := nI 1) hx hb dL_law_401 (by decide) ?_
  refine lv_iadd hx hb dL_law_402 ?_
  refine z_top (nI (k + 1)) (nI_add k 1) ?_
  refine va_sld hx hb hXs hbl hbA Y.2.2.2.1 (vp_in_nI (show k + 1 < L by omega) (by omega)) dL_law_403 ?_
  refine z_top (xs (k + 1)) (by rw [nI_clamp (by omega)]) ?_
  refine zL_callI0 (rest := []) ⟨hx, hb, hml, hown, htsL⟩ Y (kX0_resident l dC dI rX (xs (k + 1))) (cwV 1 htsL gL_law_X0_resident rfl rfl rfl (by decide +kernel) ⟨Nat.le_of_ble_eq_true rfl, Nat.le_of_ble_eq_true rfl⟩) rfl hl.1 rfl (Nat.le_of_ble_eq_true rfl) dL_law_404 ⟨Nat.le_refl _, Nat.le_refl _⟩ (fun r1 u1 Hq lq hw1 Y => ?_)
  obtain ⟨rfl, hw1⟩ := hw1
  refine lv_aload_n hx hb dL_law_407 rfl (lv_at hl 2 rfl) ?_
  refine lv_aload_n hx hb dL_law_408 rfl (lv_at hl 0 rfl) ?_
  refine lv_iload_n hx hb dL_law_409 rfl (lv_at hl 3 rfl) ?_
  refine lv_iconst (v := nI 1) hx hb dL_law_410 (by decide) ?_
  refine lv_iadd hx hb dL_law_411 ?_
  refine z_top (nI (k + 1)) (nI_add k 1) ?_
  refine va_sld hx hb hXs hbl hbA Y.2.2.2.1 (vp_in_nI (show k + 1 < L by omega) (by omega)) dL_law_412 ?_
  refine z_top (xs (k + 1)) (by rw [nI_clamp (by omega)]) ?_
  refine zL_callI1 (rest := [.int r1]) ⟨hx, hb, hml, hown, htsL⟩ Y (kX1_resident l dC dI rM (xs (k + 1))) (cwV 1 htsL gL_law_X1_resident rfl rfl rfl (by decide +kernel) ⟨Nat.le_of_ble_eq_true rfl, Nat.le_of_ble_eq_true rfl⟩) rfl hl.1 rfl (Nat.le_of_ble_eq_true rfl) dL_law_413 ⟨Nat.le_refl _, Nat.le_refl _⟩ (fun r2 u2 Hq lq hw2 Y => ?_)
  obtain ⟨rfl, hw2⟩ := hw2
  rw [spRes_c hG] at hw2
  refine lv_icmp_eq (tgt := 506) hx hb dL_law_416 (by decide) (fun _ => ?_) (fun cq => absurd (hw1.trans hw2.symm) cq)
  exact kk a _ _ _ _ (Rep_to (by omega) hN4 rX) (Rep_to (by omega) hN4 rM) Y
set_option maxHeartbeats 4000000 in
set_option maxRecDepth 100000 in
theorem law_c11 {p : Program} {l : Launch} {e : Env} {s : State} {m : MethodId} {below : List Frame} {meth : Method} {c : Code} {b L : Nat} {xs : Nat → Int32} {dC : Nat → ClassId} {dI : Nat → Nat → Nat} {g h : GE} {Q : State → Prop} (hL : L ≤ 2051) (C0 : lw_At p s m meth c b L xs) (hG : Ge h g) (hX : geS g = geW g) (hM : geS h = 8) (hM3 : gn3 h = 1600) (hM5 : gn5 h = 32) {k : Nat} (hk : k + 4 ≤ L) {a : AS} {u v : CS} (rX : Rep g k a u) (rM : Rep h k a v) {H : Heap} {locs : List Loc} (Y : zL dC dI g h (fun q => s.heap.size ≤ q) s.heap s u v H locs) {ls : Array Slot} (hl : lv_has ls 4 [(0, .ref b), (1, .ref (ga0 g)), (2, .ref (ga0 h)), (3, .int (nI k))])
    (kk : ∀ (a1 : AS) (u1 v1 : CS) (H1 : Heap) (locs1 : List Loc), Rep g (k + 4) a1 u1 → Rep h (k + 4) a1 v1 → zL dC dI g h (fun q => s.heap.size ≤ q) s.heap s u1 v1 H1 locs1 → W p l e room_1 s m #[Value.ref b] below meth c H1 locs1 600000 7302250 Q (F0 m 506 ls [])) : W p l e room_1 s m #[Value.ref b] below meth c H locs 600000 7302250 Q (F0 m 421 ls []) := by
  obtain ⟨hx, hb, hr, hml, hown, hts, hXs, hbl, hlocks, hgv⟩ := C0
  have hown : s.vm.findClass RL = some m.cls := hown
  have htsL : ∀ w ∈ wsL_law, w.before #[Value.ref b] s = true := fun w z => hts w (wsL_law_in w z)
  have hbA : ¬ (fun q : Nat => s.heap.size ≤ q) b := Nat.not_le.mpr hbl
  have hN1 : k + 1 < 2 ^ 20 := by omega
  have hN4 : k + 4 < 2 ^ 20 := by omega
  refine lv_aload_n hx hb dL_law_421 rfl (lv_at hl 1 rfl) ?_
  refine zL_callI0 (rest := []) ⟨hx, hb, hml, hown, htsL⟩ Y (kX0_diskReads l dC dI rX) (cwV 0 htsL gL_law_X0_diskReads rfl rfl rfl (by decide +kernel) ⟨Nat.le_of_ble_eq_true rfl, Nat.le_of_ble_eq_true rfl⟩) rfl hl.1 rfl (Nat.le_of_ble_eq_true rfl) dL_law_422 ⟨Nat.le_refl _, Nat.le_refl _⟩ (fun r1 u1 Hq lq hw1 Y => ?_)
  obtain ⟨rfl, hw1⟩ := hw1
  refine lv_aload_n hx hb dL_law_425 rfl (lv_at hl 2 rfl) ?_
  refine zL_callI1 (rest := [.int r1]) ⟨hx, hb, hml, hown, htsL⟩ Y (kX1_diskReads l dC dI rM) (cwV 0 htsL gL_law_X1_diskReads rfl rfl rfl (by decide +kernel) ⟨Nat.le_of_ble_eq_true rfl, Nat.le_of_ble_eq_true rfl⟩) rfl hl.1 rfl (Nat.le_of_ble_eq_true rfl) dL_law_426 ⟨Nat.le_refl _, Nat.le_refl _⟩ (fun r2 u2 Hq lq hw2 Y => ?_)
  obtain ⟨rfl, hw2⟩ := hw2
  refine lv_icmp_eq (tgt := 506) hx hb dL_law_429 (by decide) (fun _ => ?_) (fun cq => absurd (hw1.trans hw2.symm) cq)
  exact kk a _ _ _ _ (Rep_to (by omega) hN4 rX) (Rep_to (by omega) hN4 rM) Y
set_option maxHeartbeats 4000000 in
set_option maxRecDepth 100000 in
theorem law_c12 {p : Program} {l : Launch} {e : Env} {s : State} {m : MethodId} {below : List Frame} {meth : Method} {c : Code} {b L : Nat} {xs : Nat → Int32} {dC : Nat → ClassId} {dI : Nat → Nat → Nat} {g h : GE} {Q : State → Prop} (hL : L ≤ 2051) (C0 : lw_At p s m meth c b L xs) (hG : Ge h g) (hX : geS g = geW g) (hM : geS h = 8) (hM3 : gn3 h = 1600) (hM5 : gn5 h = 32) {k : Nat} (hk : k + 4 ≤ L) {a : AS} {u v : CS} (rX : Rep g k a u) (rM : Rep h k a v) {H : Heap} {locs : List Loc} (Y : zL dC dI g h (fun q => s.heap.size ≤ q) s.heap s u v H locs) {ls : Array Slot} (hl : lv_has ls 4 [(0, .ref b), (1, .ref (ga0 g)), (2, .ref (ga0 h)), (3, .int (nI k))])
    (kk : ∀ (a1 : AS) (u1 v1 : CS) (H1 : Heap) (locs1 : List Loc), Rep g (k + 4) a1 u1 → Rep h (k + 4) a1 v1 → zL dC dI g h (fun q => s.heap.size ≤ q) s.heap s u1 v1 H1 locs1 → W p l e room_1 s m #[Value.ref b] below meth c H1 locs1 600000 7302250 Q (F0 m 506 ls [])) : W p l e room_1 s m #[Value.ref b] below meth c H locs 600000 7302250 Q (F0 m 434 ls []) := by
  obtain ⟨hx, hb, hr, hml, hown, hts, hXs, hbl, hlocks, hgv⟩ := C0
  have hown : s.vm.findClass RL = some m.cls := hown
  have htsL : ∀ w ∈ wsL_law, w.before #[Value.ref b] s = true := fun w z => hts w (wsL_law_in w z)
  have hbA : ¬ (fun q : Nat => s.heap.size ≤ q) b := Nat.not_le.mpr hbl
  have hN1 : k + 1 < 2 ^ 20 := by omega
  have hN4 : k + 4 < 2 ^ 20 := by omega
  refine lv_aload_n hx hb dL_law_434 rfl (lv_at hl 1 rfl) ?_
  refine zL_callI0 (rest := []) ⟨hx, hb, hml, hown, htsL⟩ Y (kX0_diskWrites l dC dI rX) (cwV 0 htsL gL_law_X0_diskWrites rfl rfl rfl (by decide +kernel) ⟨Nat.le_of_ble_eq_true rfl, Nat.le_of_ble_eq_true rfl⟩) rfl hl.1 rfl (Nat.le_of_ble_eq_true rfl) dL_law_435 ⟨Nat.le_refl _, Nat.le_refl _⟩ (fun r1 u1 Hq lq hw1 Y => ?_)
  obtain ⟨rfl, hw1⟩ := hw1
  refine lv_aload_n hx hb dL_law_438 rfl (lv_at hl 2 rfl) ?_
  refine zL_callI1 (rest := [.int r1]) ⟨hx, hb, hml, hown, htsL⟩ Y (kX1_diskWrites l dC dI rM) (cwV 0 htsL gL_law_X1_diskWrites rfl rfl rfl (by decide +kernel) ⟨Nat.le_of_ble_eq_true rfl, Nat.le_of_ble_eq_true rfl⟩) rfl hl.1 rfl (Nat.le_of_ble_eq_true rfl) dL_law_439 ⟨Nat.le_refl _, Nat.le_refl _⟩ (fun r2 u2 Hq lq hw2 Y => ?_)
  obtain ⟨rfl, hw2⟩ := hw2
  refine lv_icmp_eq (tgt := 506) hx hb dL_law_442 (by decide) (fun _ => ?_) (fun cq => absurd (hw1.trans hw2.symm) cq)
  exact kk a _ _ _ _ (Rep_to (by omega) hN4 rX) (Rep_to (by omega) hN4 rM) Y
set_option maxHeartbeats 4000000 in
set_option maxRecDepth 100000 in
theorem law_c13 {p : Program} {l : Launch} {e : Env} {s : State} {m : MethodId} {below : List Frame} {meth : Method} {c : Code} {b L : Nat} {xs : Nat → Int32} {dC : Nat → ClassId} {dI : Nat → Nat → Nat} {g h : GE} {Q : State → Prop} (hL : L ≤ 2051) (C0 : lw_At p s m meth c b L xs) (hG : Ge h g) (hX : geS g = geW g) (hM : geS h = 8) (hM3 : gn3 h = 1600) (hM5 : gn5 h = 32) {k : Nat} (hk : k + 4 ≤ L) {a : AS} {u v : CS} (rX : Rep g k a u) (rM : Rep h k a v) {H : Heap} {locs : List Loc} (Y : zL dC dI g h (fun q => s.heap.size ≤ q) s.heap s u v H locs) {ls : Array Slot} (hl : lv_has ls 4 [(0, .ref b), (1, .ref (ga0 g)), (2, .ref (ga0 h)), (3, .int (nI k))])
    (kk : ∀ (a1 : AS) (u1 v1 : CS) (H1 : Heap) (locs1 : List Loc), Rep g (k + 4) a1 u1 → Rep h (k + 4) a1 v1 → zL dC dI g h (fun q => s.heap.size ≤ q) s.heap s u1 v1 H1 locs1 → W p l e room_1 s m #[Value.ref b] below meth c H1 locs1 600000 7302250 Q (F0 m 506 ls [])) : W p l e room_1 s m #[Value.ref b] below meth c H locs 600000 7302250 Q (F0 m 447 ls []) := by
  obtain ⟨hx, hb, hr, hml, hown, hts, hXs, hbl, hlocks, hgv⟩ := C0
  have hown : s.vm.findClass RL = some m.cls := hown
  have htsL : ∀ w ∈ wsL_law, w.before #[Value.ref b] s = true := fun w z => hts w (wsL_law_in w z)
  have hbA : ¬ (fun q : Nat => s.heap.size ≤ q) b := Nat.not_le.mpr hbl
  have hN1 : k + 1 < 2 ^ 20 := by omega
  have hN4 : k + 4 < 2 ^ 20 := by omega
  refine lv_aload_n hx hb dL_law_447 rfl (lv_at hl 1 rfl) ?_
  refine lv_aload_n hx hb dL_law_448 rfl (lv_at hl 0 rfl) ?_
  refine lv_iload_n hx hb dL_law_449 rfl (lv_at hl 3 rfl) ?_
  refine lv_iconst (v := nI 1) hx hb dL_law_450 (by decide) ?_
  refine lv_iadd hx hb dL_law_451 ?_
  refine z_top (nI (k + 1)) (nI_add k 1) ?_
  refine va_sld hx hb hXs hbl hbA Y.2.2.2.1 (vp_in_nI (show k + 1 < L by omega) (by omega)) dL_law_452 ?_
  refine z_top (xs (k + 1)) (by rw [nI_clamp (by omega)]) ?_
  refine lv_aload_n hx hb dL_law_453 rfl (lv_at hl 0 rfl) ?_
  refine lv_iload_n hx hb dL_law_454 rfl (lv_at hl 3 rfl) ?_
  refine lv_iconst (v := nI 2) hx hb dL_law_455 (by decide) ?_
  refine lv_iadd hx hb dL_law_456 ?_
  refine z_top (nI (k + 2)) (nI_add k 2) ?_
  refine va_sld hx hb hXs hbl hbA Y.2.2.2.1 (vp_in_nI (show k + 2 < L by omega) (by omega)) dL_law_457 ?_
  refine z_top (xs (k + 2)) (by rw [nI_clamp (by omega)]) ?_
  refine zL_callI0 (rest := []) ⟨hx, hb, hml, hown, htsL⟩ Y (kX0_told l dC dI rX (xs (k + 1)) (xs (k + 2))) (cwV 2 htsL gL_law_X0_told rfl rfl rfl (by decide +kernel) ⟨Nat.le_of_ble_eq_true rfl, Nat.le_of_ble_eq_true rfl⟩) rfl hl.1 rfl (Nat.le_of_ble_eq_true rfl) dL_law_458 ⟨Nat.le_refl _, Nat.le_refl _⟩ (fun r1 u1 Hq lq hw1 Y => ?_)
  obtain ⟨rfl, hw1⟩ := hw1
  refine lv_aload_n hx hb dL_law_461 rfl (lv_at hl 2 rfl) ?_
  refine lv_aload_n hx hb dL_law_462 rfl (lv_at hl 0 rfl) ?_
  refine lv_iload_n hx hb dL_law_463 rfl (lv_at hl 3 rfl) ?_
  refine lv_iconst (v := nI 1) hx hb dL_law_464 (by decide) ?_
  refine lv_iadd hx hb dL_law_465 ?_
  refine z_top (nI (k + 1)) (nI_add k 1) ?_
  refine va_sld hx hb hXs hbl hbA Y.2.2.2.1 (vp_in_nI (show k + 1 < L by omega) (by omega)) dL_law_466 ?_
  refine z_top (xs (k + 1)) (by rw [nI_clamp (by omega)]) ?_
  refine lv_aload_n hx hb dL_law_467 rfl (lv_at hl 0 rfl) ?_
  refine lv_iload_n hx hb dL_law_468 rfl (lv_at hl 3 rfl) ?_
  refine lv_iconst (v := nI 2) hx hb dL_law_469 (by decide) ?_
  refine lv_iadd hx hb dL_law_470 ?_
  refine z_top (nI (k + 2)) (nI_add k 2) ?_
  refine va_sld hx hb hXs hbl hbA Y.2.2.2.1 (vp_in_nI (show k + 2 < L by omega) (by omega)) dL_law_471 ?_
  refine z_top (xs (k + 2)) (by rw [nI_clamp (by omega)]) ?_
  refine zL_callI1 (rest := [.int r1]) ⟨hx, hb, hml, hown, htsL⟩ Y (kX1_told l dC dI rM (xs (k + 1)) (xs (k + 2))) (cwV 2 htsL gL_law_X1_told rfl rfl rfl (by decide +kernel) ⟨Nat.le_of_ble_eq_true rfl, Nat.le_of_ble_eq_true rfl⟩) rfl hl.1 rfl (Nat.le_of_ble_eq_true rfl) dL_law_472 ⟨Nat.le_refl _, Nat.le_refl _⟩ (fun r2 u2 Hq lq hw2 Y => ?_)
  obtain ⟨rfl, hw2⟩ := hw2
  rw [spTold_c hG] at hw2
  refine lv_icmp_eq (tgt := 506) hx hb dL_law_475 (by decide) (fun _ => ?_) (fun cq => absurd (hw1.trans hw2.symm) cq)
  exact kk a _ _ _ _ (Rep_to (by omega) hN4 rX) (Rep_to (by omega) hN4 rM) Y
set_option maxHeartbeats 4000000 in
set_option maxRecDepth 100000 in
theorem law_c14 {p : Program} {l : Launch} {e : Env} {s : State} {m : MethodId} {below : List Frame} {meth : Method} {c : Code} {b L : Nat} {xs : Nat → Int32} {dC : Nat → ClassId} {dI : Nat → Nat → Nat} {g h : GE} {Q : State → Prop} (hL : L ≤ 2051) (C0 : lw_At p s m meth c b L xs) (hG : Ge h g) (hX : geS g = geW g) (hM : geS h = 8) (hM3 : gn3 h = 1600) (hM5 : gn5 h = 32) {k : Nat} (hk : k + 4 ≤ L) {a : AS} {u v : CS} (rX : Rep g k a u) (rM : Rep h k a v) {H : Heap} {locs : List Loc} (Y : zL dC dI g h (fun q => s.heap.size ≤ q) s.heap s u v H locs) {ls : Array Slot} (hl : lv_has ls 4 [(0, .ref b), (1, .ref (ga0 g)), (2, .ref (ga0 h)), (3, .int (nI k))])
    (kk : ∀ (a1 : AS) (u1 v1 : CS) (H1 : Heap) (locs1 : List Loc), Rep g (k + 4) a1 u1 → Rep h (k + 4) a1 v1 → zL dC dI g h (fun q => s.heap.size ≤ q) s.heap s u1 v1 H1 locs1 → W p l e room_1 s m #[Value.ref b] below meth c H1 locs1 600000 7302250 Q (F0 m 506 ls [])) : W p l e room_1 s m #[Value.ref b] below meth c H locs 600000 7302250 Q (F0 m 480 ls []) := by
  obtain ⟨hx, hb, hr, hml, hown, hts, hXs, hbl, hlocks, hgv⟩ := C0
  have hown : s.vm.findClass RL = some m.cls := hown
  have htsL : ∀ w ∈ wsL_law, w.before #[Value.ref b] s = true := fun w z => hts w (wsL_law_in w z)
  have hbA : ¬ (fun q : Nat => s.heap.size ≤ q) b := Nat.not_le.mpr hbl
  have hN1 : k + 1 < 2 ^ 20 := by omega
  have hN4 : k + 4 < 2 ^ 20 := by omega
  refine lv_aload_n hx hb dL_law_480 rfl (lv_at hl 1 rfl) ?_
  refine zL_callI0 (rest := []) ⟨hx, hb, hml, hown, htsL⟩ Y (kX0_hand l dC dI rX) (cwV 0 htsL gL_law_X0_hand rfl rfl rfl (by decide +kernel) ⟨Nat.le_of_ble_eq_true rfl, Nat.le_of_ble_eq_true rfl⟩) rfl hl.1 rfl (Nat.le_of_ble_eq_true rfl) dL_law_481 ⟨Nat.le_refl _, Nat.le_refl _⟩ (fun r1 u1 Hq lq hw1 Y => ?_)
  obtain ⟨rfl, hw1⟩ := hw1
  refine lv_aload_n hx hb dL_law_484 rfl (lv_at hl 2 rfl) ?_
  refine zL_callI1 (rest := [.int r1]) ⟨hx, hb, hml, hown, htsL⟩ Y (kX1_hand l dC dI rM) (cwV 0 htsL gL_law_X1_hand rfl rfl rfl (by decide +kernel) ⟨Nat.le_of_ble_eq_true rfl, Nat.le_of_ble_eq_true rfl⟩) rfl hl.1 rfl (Nat.le_of_ble_eq_true rfl) dL_law_485 ⟨Nat.le_refl _, Nat.le_refl _⟩ (fun r2 u2 Hq lq hw2 Y => ?_)
  obtain ⟨rfl, hw2⟩ := hw2
  refine lv_icmp_eq (tgt := 506) hx hb dL_law_488 (by decide) (fun _ => ?_) (fun cq => absurd (hw1.trans hw2.symm) cq)
  exact kk a _ _ _ _ (Rep_to (by omega) hN4 rX) (Rep_to (by omega) hN4 rM) Y
set_option maxHeartbeats 4000000 in
set_option maxRecDepth 100000 in
theorem law_c15 {p : Program} {l : Launch} {e : Env} {s : State} {m : MethodId} {below : List Frame} {meth : Method} {c : Code} {b L : Nat} {xs : Nat → Int32} {dC : Nat → ClassId} {dI : Nat → Nat → Nat} {g h : GE} {Q : State → Prop} (hL : L ≤ 2051) (C0 : lw_At p s m meth c b L xs) (hG : Ge h g) (hX : geS g = geW g) (hM : geS h = 8) (hM3 : gn3 h = 1600) (hM5 : gn5 h = 32) {k : Nat} (hk : k + 4 ≤ L) {a : AS} {u v : CS} (rX : Rep g k a u) (rM : Rep h k a v) {H : Heap} {locs : List Loc} (Y : zL dC dI g h (fun q => s.heap.size ≤ q) s.heap s u v H locs) {ls : Array Slot} (hl : lv_has ls 4 [(0, .ref b), (1, .ref (ga0 g)), (2, .ref (ga0 h)), (3, .int (nI k))])
    (kk : ∀ (a1 : AS) (u1 v1 : CS) (H1 : Heap) (locs1 : List Loc), Rep g (k + 4) a1 u1 → Rep h (k + 4) a1 v1 → zL dC dI g h (fun q => s.heap.size ≤ q) s.heap s u1 v1 H1 locs1 → W p l e room_1 s m #[Value.ref b] below meth c H1 locs1 600000 7302250 Q (F0 m 506 ls [])) : W p l e room_1 s m #[Value.ref b] below meth c H locs 600000 7302250 Q (F0 m 493 ls []) := by
  obtain ⟨hx, hb, hr, hml, hown, hts, hXs, hbl, hlocks, hgv⟩ := C0
  have hown : s.vm.findClass RL = some m.cls := hown
  have htsL : ∀ w ∈ wsL_law, w.before #[Value.ref b] s = true := fun w z => hts w (wsL_law_in w z)
  have hbA : ¬ (fun q : Nat => s.heap.size ≤ q) b := Nat.not_le.mpr hbl
  have hN1 : k + 1 < 2 ^ 20 := by omega
  have hN4 : k + 4 < 2 ^ 20 := by omega
  refine lv_aload_n hx hb dL_law_493 rfl (lv_at hl 1 rfl) ?_
  refine zL_callI0 (rest := []) ⟨hx, hb, hml, hown, htsL⟩ Y (kX0_pinned l dC dI rX) (cwV 0 htsL gL_law_X0_pinned rfl rfl rfl (by decide +kernel) ⟨Nat.le_of_ble_eq_true rfl, Nat.le_of_ble_eq_true rfl⟩) rfl hl.1 rfl (Nat.le_of_ble_eq_true rfl) dL_law_494 ⟨Nat.le_refl _, Nat.le_refl _⟩ (fun r1 u1 Hq lq hw1 Y => ?_)
  obtain ⟨rfl, hw1⟩ := hw1
  refine lv_aload_n hx hb dL_law_497 rfl (lv_at hl 2 rfl) ?_
  refine zL_callI1 (rest := [.int r1]) ⟨hx, hb, hml, hown, htsL⟩ Y (kX1_pinned l dC dI rM) (cwV 0 htsL gL_law_X1_pinned rfl rfl rfl (by decide +kernel) ⟨Nat.le_of_ble_eq_true rfl, Nat.le_of_ble_eq_true rfl⟩) rfl hl.1 rfl (Nat.le_of_ble_eq_true rfl) dL_law_498 ⟨Nat.le_refl _, Nat.le_refl _⟩ (fun r2 u2 Hq lq hw2 Y => ?_)
  obtain ⟨rfl, hw2⟩ := hw2
  rw [hG.1] at hw2
  refine lv_icmp_eq (tgt := 506) hx hb dL_law_501 (by decide) (fun _ => ?_) (fun cq => absurd (hw1.trans hw2.symm) cq)
  exact kk a _ _ _ _ (Rep_to (by omega) hN4 rX) (Rep_to (by omega) hN4 rM) Y
theorem cond_le {L k : Nat} (hL : L ≤ 2051) (hk : k ≤ 5000) (h : ¬ Int32.ofNat L - nI 4 < nI k) : k + 4 ≤ L := by
  have h1 := i_le_of h
  rw [Int32.le_iff_toInt_le, nI_toInt (by omega)] at h1
  have h2 : (nI L - nI 4).toInt = (L : Int) - 4 := pk_sub_toInt (by omega) (by decide)
  have h3 : (Int32.ofNat L - nI 4).toInt = (L : Int) - 4 := h2
  omega
set_option maxHeartbeats 4000000 in
set_option maxRecDepth 100000 in
/-- the law's loop -/
theorem law_loop {p : Program} {l : Launch} {e : Env} {s : State} {m : MethodId} {below : List Frame} {meth : Method} {c : Code} {b L : Nat} {xs : Nat → Int32} {dC : Nat → ClassId} {dI : Nat → Nat → Nat} {g h : GE} (hL : L ≤ 2051) (C0 : lw_At p s m meth c b L xs) (hG : Ge h g) (hX : geS g = geW g) (hM : geS h = 8) (hM3 : gn3 h = 1600) (hM5 : gn5 h = 32) : ∀ (n k : Nat), n = L - k → k ≤ 5000 → ∀ (a : AS) (u v : CS), Rep g k a u → Rep h k a v → ∀ (H : Heap) (locs : List Loc), zL dC dI g h (fun q => s.heap.size ≤ q) s.heap s u v H locs → ∀ ls : Array Slot, lv_has ls 4 [(0, .ref b), (1, .ref (ga0 g)), (2, .ref (ga0 h)), (3, .int (nI k))] → W p l e room_1 s m #[Value.ref b] below meth c H locs 600000 7302250 (lw_Z below #[Value.ref b] s) (F0 m 48 ls []) := by
  obtain ⟨hx, hb, hr, hml, hown, hts, hXs, hbl, hlocks, hgv⟩ := id C0
  have hbA : ¬ (fun q : Nat => s.heap.size ≤ q) b := Nat.not_le.mpr hbl
  intro n
  induction n using Nat.strongRecOn with
  | ind n ih =>
    intro k hn hk5 a u v rX rM H locs Y ls hl
    refine lv_iload_n hx hb dL_law_48 rfl (lv_at hl 3 rfl) ?_
    refine lv_aload_n hx hb dL_law_49 rfl (lv_at hl 0 rfl) ?_
    refine va_slen hx hb hXs hbl hbA Y.2.2.2.1 dL_law_50 ?_
    refine lv_iconst (v := nI 4) hx hb dL_law_51 (by decide) ?_
    refine lv_isub hx hb dL_law_52 ?_
    refine lv_icmp_gt (tgt := 512) hx hb dL_law_53 (by decide) (fun c53 => ?_) (fun c53 => ?_)
    · refine lv_iconst (v := 1) hx hb dL_law_512 (by decide) ?_
      refine va_forget (fun q hq => Y.2.2.2.1.2.2 q hq) ?_
      exact lw_ret hx hb hr hlocks dL_law_513
    · have hk : k + 4 ≤ L := cond_le hL hk5 c53
      refine lv_aload_n hx hb dL_law_56 rfl (lv_at hl 0 rfl) ?_
      refine lv_iload_n hx hb dL_law_57 rfl (lv_at hl 3 rfl) ?_
      refine va_sld hx hb hXs hbl hbA Y.2.2.2.1 (vp_in_nI (show k < L by omega) (by omega)) dL_law_58 ?_
      refine lv_bipush (v := nI 15) hx hb dL_law_59 (by decide) ?_
      refine lv_iand hx hb dL_law_61 ?_
      obtain ⟨j, hj, ej⟩ := pk_andE (xs (nI k).toNatClampNeg) (m := nI 15) 4 (by decide +kernel)
      refine z_top (nI j) ej ?_
      have kk : ∀ (a1 : AS) (u1 v1 : CS) (H1 : Heap) (locs1 : List Loc), Rep g (k + 4) a1 u1 → Rep h (k + 4) a1 v1 → zL dC dI g h (fun q => s.heap.size ≤ q) s.heap s u1 v1 H1 locs1 → W p l e room_1 s m #[Value.ref b] below meth c H1 locs1 600000 7302250 (lw_Z below #[Value.ref b] s) (F0 m 506 ls []) := by
        intro a1 u1 v1 H1 locs1 q1 q2 Y1
        refine lv_iinc (v := nI (k + 4)) (lv' := [(3, .int (nI (k + 4))), (0, .ref b), (1, .ref (ga0 g)), (2, .ref (ga0 h))]) hx hb dL_law_506 hl (k := 3) rfl (nI_add k 4) (by decide) rfl (fun ls hl => ?_)
        refine lv_goto (tgt := 48) hx hb dL_law_509 (by decide) ?_
        exact ih (L - (k + 4)) (by omega) (k + 4) rfl (by omega) a1 u1 v1 q1 q2 H1 locs1 Y1 ls (lv_sub hl [1, 2, 3, 0] rfl)
      rcases (show j = 0 ∨ j = 1 ∨ j = 2 ∨ j = 3 ∨ j = 4 ∨ j = 5 ∨ j = 6 ∨ j = 7 ∨ j = 8 ∨ j = 9 ∨ j = 10 ∨ j = 11 ∨ j = 12 ∨ j = 13 ∨ j = 14 ∨ j = 15 by omega) with rfl | rfl | rfl | rfl | rfl | rfl | rfl | rfl | rfl | rfl | rfl | rfl | rfl | rfl | rfl | rfl
      · refine lv_tableIn (tgt := 140) (off := 78) hx hb dL_law_62 (by decide +kernel) (by decide +kernel) (by decide +kernel) (by decide) ?_
        exact law_c0 hL C0 hG hX hM hM3 hM5 hk rX rM Y hl kk
      · refine lv_tableIn (tgt := 151) (off := 89) hx hb dL_law_62 (by decide +kernel) (by decide +kernel) (by decide +kernel) (by decide) ?_
        exact law_c1 hL C0 hG hX hM hM3 hM5 hk rX rM Y hl kk
      · refine lv_tableIn (tgt := 174) (off := 112) hx hb dL_law_62 (by decide +kernel) (by decide +kernel) (by decide +kernel) (by decide) ?_
        exact law_c2 hL C0 hG hX hM hM3 hM5 hk rX rM Y hl kk
      · refine lv_tableIn (tgt := 197) (off := 135) hx hb dL_law_62 (by decide +kernel) (by decide +kernel) (by decide +kernel) (by decide) ?_
        exact law_c3 hL C0 hG hX hM hM3 hM5 hk rX rM Y hl kk
      · refine lv_tableIn (tgt := 230) (off := 168) hx hb dL_law_62 (by decide +kernel) (by decide +kernel) (by decide +kernel) (by decide) ?_
        exact law_c4 hL C0 hG hX hM hM3 hM5 hk rX rM Y hl kk
      · refine lv_tableIn (tgt := 273) (off := 211) hx hb dL_law_62 (by decide +kernel) (by decide +kernel) (by decide +kernel) (by decide) ?_
        exact law_c5 hL C0 hG hX hM hM3 hM5 hk rX rM Y hl kk
      · refine lv_tableIn (tgt := 296) (off := 234) hx hb dL_law_62 (by decide +kernel) (by decide +kernel) (by decide +kernel) (by decide) ?_
        exact law_c6 hL C0 hG hX hM hM3 hM5 hk rX rM Y hl kk
      · refine lv_tableIn (tgt := 309) (off := 247) hx hb dL_law_62 (by decide +kernel) (by decide +kernel) (by decide +kernel) (by decide) ?_
        exact law_c7 hL C0 hG hX hM hM3 hM5 hk rX rM Y hl kk
      · refine lv_tableIn (tgt := 332) (off := 270) hx hb dL_law_62 (by decide +kernel) (by decide +kernel) (by decide +kernel) (by decide) ?_
        exact law_c8 hL C0 hG hX hM hM3 hM5 hk rX rM Y hl kk
      · refine lv_tableIn (tgt := 365) (off := 303) hx hb dL_law_62 (by decide +kernel) (by decide +kernel) (by decide +kernel) (by decide) ?_
        exact law_c9 hL C0 hG hX hM hM3 hM5 hk rX rM Y hl kk
      · refine lv_tableIn (tgt := 398) (off := 336) hx hb dL_law_62 (by decide +kernel) (by decide +kernel) (by decide +kernel) (by decide) ?_
        exact law_c10 hL C0 hG hX hM hM3 hM5 hk rX rM Y hl kk
      · refine lv_tableIn (tgt := 421) (off := 359) hx hb dL_law_62 (by decide +kernel) (by decide +kernel) (by decide +kernel) (by decide) ?_
        exact law_c11 hL C0 hG hX hM hM3 hM5 hk rX rM Y hl kk
      · refine lv_tableIn (tgt := 434) (off := 372) hx hb dL_law_62 (by decide +kernel) (by decide +kernel) (by decide +kernel) (by decide) ?_
        exact law_c12 hL C0 hG hX hM hM3 hM5 hk rX rM Y hl kk
      · refine lv_tableIn (tgt := 447) (off := 385) hx hb dL_law_62 (by decide +kernel) (by decide +kernel) (by decide +kernel) (by decide) ?_
        exact law_c13 hL C0 hG hX hM hM3 hM5 hk rX rM Y hl kk
      · refine lv_tableIn (tgt := 480) (off := 418) hx hb dL_law_62 (by decide +kernel) (by decide +kernel) (by decide +kernel) (by decide) ?_
        exact law_c14 hL C0 hG hX hM hM3 hM5 hk rX rM Y hl kk
      · refine lv_tableIn (tgt := 493) (off := 431) hx hb dL_law_62 (by decide +kernel) (by decide +kernel) (by decide +kernel) (by decide) ?_
        exact law_c15 hL C0 hG hX hM hM3 hM5 hk rX rM Y hl kk
