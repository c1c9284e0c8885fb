set_option maxHeartbeats 4000000 in
set_option maxRecDepth 100000 in
/-- THE LAW, from its entry -/
theorem whole_start {p : Program} {e : Env} {s : State} {m : MethodId} {below : List Frame} {meth : Method} {c : Code} (l : Launch) {b L : Nat} {xs : Nat → Int32} (hL : L ≤ 2051) (C0 : lw_At p s m meth c b L xs) : W p l e room_1 s m #[Value.ref b] below meth c s.heap [] 0 0 (lw_Z below #[Value.ref b] s) (entryFrame m ([Value.ref b] : List Value).toArray 4) := by
  obtain ⟨hx, hb, hr, hml, hown, hts, hX, hbl, hlocks, hgv⟩ := id C0
  have hown : s.vm.findClass RL = some m.cls := hown
  have htsL : ∀ w ∈ wsL_law, w.before #[Value.ref b] s = true := fun w z => hts w (wsL_law_in w z)
  have hA : ∀ q : Nat, s.heap.size ≤ q → (fun q : Nat => s.heap.size ≤ q) q := fun _ h => h
  have hbA : ¬ (fun q : Nat => s.heap.size ≤ q) b := Nat.not_le.mpr hbl
  obtain ⟨c0, iS0, hKn0⟩ := u_known (C := RX0) (T := TX0) (N := 12) (n := 12) htsL inlX0 (htsL (.instantiable RX0 12) (by decide +kernel))
  obtain ⟨c1, iS1, hKn1⟩ := u_known (C := RX1) (T := TX1) (N := 12) (n := 12) htsL inlX1 (htsL (.instantiable RX1 12) (by decide +kernel))
  obtain ⟨dC, dI, hKc⟩ : ∃ (dC : Nat → ClassId) (dI : Nat → Nat → Nat), ∀ (k : Nat) (q : vw_C), vwCl[k]? = some q → u_Kn s q.1 q.2.1 q.2.2 (dC k) (dI k) := by
    refine ⟨fun k => if k = 0 then c0 else c1, fun k => if k = 0 then iS0 else iS1, ?_⟩
    intro k q hq
    match k, hq with
    | 0, hq => cases hq; exact hKn0
    | 1, hq => cases hq; exact hKn1
    | k + 2, hq => simp [vwCl] at hq
  have hS : va_S (fun q : Nat => s.heap.size ≤ q) s.heap s.heap [] := va_S.rf
  have hK : va_K (dC, dI) vwCl [] s := ⟨hKc, fun k q h => by simp at h⟩
  have hP : va_P (dC, dI) vwCl [] s.heap := fun k q h => by simp at h
  have hD : va_D (fun q : Nat => s.heap.size ≤ q) [] := ⟨fun i j p q h => by simp at h, fun k q h => by simp at h⟩
  have hl := lv_entry ([.ref b]) (n := 4) (Nat.le_of_ble_eq_true rfl)
  rw [lg_entry_eq]
  generalize (lg_sl ([.ref b]) ++ List.replicate (4 - (lg_sl ([.ref b])).length) Slot.unset).toArray = ls at hl ⊢
  have hl : lv_has ls 4 [(0, .ref b)] := hl
  obtain ⟨x, ex⟩ : ∃ x, x = cel L xs 0 := ⟨_, rfl⟩
  obtain ⟨y, ey⟩ : ∃ y, y = cel L xs 1 := ⟨_, rfl⟩
  obtain ⟨z, ez⟩ : ∃ z, z = cel L xs 2 := ⟨_, rfl⟩
  refine va_new (ci := 0) (fs := zBlank) (C := RX0) (T := TX0) (N := 12) hx hb htsL inlX0 tyX0 tyX0_ok hown (htsL (.classLink RL 7 RX0) (by decide +kernel)) (htsL (.instantiable RX0 12) (by decide +kernel)) (htsL (.initialized RX0) (by decide +kernel)) hK hP hD hS hA rfl (fun j hj => by rcases (show j = 0 ∨ j = 1 ∨ j = 2 ∨ j = 3 ∨ j = 4 ∨ j = 5 ∨ j = 6 ∨ j = 7 ∨ j = 8 ∨ j = 9 ∨ j = 10 ∨ j = 11 by omega) with rfl | rfl | rfl | rfl | rfl | rfl | rfl | rfl | rfl | rfl | rfl | rfl <;> rfl) (Nat.le_of_ble_eq_true rfl) (Nat.le_of_ble_eq_true rfl) dL_law_0 (fun q0 Hq hP hD hS => ?_)
  have hP : va_P (dC, dI) vwCl ([(q0, .inr (0, zBlank))]) Hq := hP
  have hD : va_D (fun q : Nat => s.heap.size ≤ q) ([(q0, .inr (0, zBlank))]) := hD
  refine lv_dup hx hb dL_law_3 rfl ?_
  refine lv_aload_n hx hb dL_law_4 rfl (lv_at hl 0 rfl) ?_
  refine lv_iconst (v := nI 0) hx hb dL_law_5 (by decide) ?_
  refine va_calli (va_runS (As := [.ref b, .int (nI 0)]) (rest := [.ref q0, .ref q0]) ⟨hx, hb, hml, hown, htsL⟩ (kL_cell l b L xs (by omega) (j := 0) (by decide)) (va_cwS 2 htsL gL_law_L_cell rfl rfl rfl (by decide +kernel) ⟨Nat.le_of_ble_eq_true rfl, Nat.le_of_ble_eq_true rfl⟩) ⟨fun a U g mk q => ⟨q.1, va_X.moved (u := U) (U := U.calling g mk a) (Vm.Alike.refl U.vm) q.2⟩, fun U hU hW => ⟨rfl, by show va_X b L xs U U.heap; rw [hU]; exact (hX.kept (hS.2.1 b hbl hbA)).moved hW.alike⟩⟩ rfl rfl hl.1 rfl (lv_room (Nat.le_of_ble_eq_true rfl)) dL_law_6 ⟨Nat.le_of_ble_eq_true rfl, Nat.le_of_ble_eq_true rfl⟩) hS (fun q _ z => z.elim) (fun q z => z.elim) (fun r6 w t Hq lq ht hvm hw hB hz1 hk1 hS => ?_)
  have hP := hP.kept (H1 := Hq) (fun k q hk => hk1 q.1 ((hP k q hk).lt) (fun z => z.elim))
  obtain rfl : x = r6 := ex.trans hw.symm
  refine lv_aload_n hx hb dL_law_9 rfl (lv_at hl 0 rfl) ?_
  refine lv_iconst (v := nI 1) hx hb dL_law_10 (by decide) ?_
  refine va_calli (va_runS (As := [.ref b, .int (nI 1)]) (rest := [.int x, .ref q0, .ref q0]) ⟨hx, hb, hml, hown, htsL⟩ (kL_cell l b L xs (by omega) (j := 1) (by decide)) (va_cwS 2 htsL gL_law_L_cell rfl rfl rfl (by decide +kernel) ⟨Nat.le_of_ble_eq_true rfl, Nat.le_of_ble_eq_true rfl⟩) ⟨fun a U g mk q => ⟨q.1, va_X.moved (u := U) (U := U.calling g mk a) (Vm.Alike.refl U.vm) q.2⟩, fun U hU hW => ⟨rfl, by show va_X b L xs U U.heap; rw [hU]; exact (hX.kept (hS.2.1 b hbl hbA)).moved hW.alike⟩⟩ rfl rfl hl.1 rfl (lv_room (Nat.le_of_ble_eq_true rfl)) dL_law_11 ⟨Nat.le_of_ble_eq_true rfl, Nat.le_of_ble_eq_true rfl⟩) hS (fun q _ z => z.elim) (fun q z => z.elim) (fun r11 w t Hq lq ht hvm hw hB hz1 hk1 hS => ?_)
  have hP := hP.kept (H1 := Hq) (fun k q hk => hk1 q.1 ((hP k q hk).lt) (fun z => z.elim))
  obtain rfl : y = r11 := ey.trans hw.symm
  refine lv_aload_n hx hb dL_law_14 rfl (lv_at hl 0 rfl) ?_
  refine lv_iconst (v := nI 2) hx hb dL_law_15 (by decide) ?_
  refine va_calli (va_runS (As := [.ref b, .int (nI 2)]) (rest := [.int y, .int x, .ref q0, .ref q0]) ⟨hx, hb, hml, hown, htsL⟩ (kL_cell l b L xs (by omega) (j := 2) (by decide)) (va_cwS 2 htsL gL_law_L_cell rfl rfl rfl (by decide +kernel) ⟨Nat.le_of_ble_eq_true rfl, Nat.le_of_ble_eq_true rfl⟩) ⟨fun a U g mk q => ⟨q.1, va_X.moved (u := U) (U := U.calling g mk a) (Vm.Alike.refl U.vm) q.2⟩, fun U hU hW => ⟨rfl, by show va_X b L xs U U.heap; rw [hU]; exact (hX.kept (hS.2.1 b hbl hbA)).moved hW.alike⟩⟩ rfl rfl hl.1 rfl (lv_room (Nat.le_of_ble_eq_true rfl)) dL_law_16 ⟨Nat.le_of_ble_eq_true rfl, Nat.le_of_ble_eq_true rfl⟩) hS (fun q _ z => z.elim) (fun q z => z.elim) (fun r16 w t Hq lq ht hvm hw hB hz1 hk1 hS => ?_)
  have hP := hP.kept (H1 := Hq) (fun k q hk => hk1 q.1 ((hP k q hk).lt) (fun z => z.elim))
  obtain rfl : z = r16 := ez.trans hw.symm
  have hPc := hP.sub (ws' := [(q0, .inr (0, zBlank))]) [0] rfl
  have hDc := hD.sub (ws' := [(q0, .inr (0, zBlank))]) [0] (by decide) rfl
  have hKc := hK.sub (tys' := []) [] rfl
  have hFc := va_free (wc := [(q0, .inr (0, zBlank))]) hD hS hA [0] rfl
  refine va_callv (va_runI (b := q0) (As := [.int x, .int y, .int z]) (rest := [.ref q0]) ⟨hx, hb, hml, hown, htsL⟩ (kX0_init l dC dI q0 x y z Hq.size) (cwI 3 htsL gL_law_X0_init rfl rfl rfl (htsL (.initialized RX0) (by decide +kernel)) (htsL (.methodLink RL 15 yX0_init) (by decide +kernel)) (htsL (.instanceMethod yX0_init) (by decide +kernel)) rfl (by decide +kernel) ⟨Nat.le_of_ble_eq_true rfl, Nat.le_of_ble_eq_true rfl⟩) ⟨fun a U g mk q => by obtain ⟨q0, q1, qP, qK, qD⟩ := q; exact ⟨q0, q1, qP, va_K.moved (u := U) (U := U.calling g mk a) (Vm.Alike.refl U.vm) qK, qD⟩, fun U hU hW => ⟨rfl, by rw [hU], by rw [hU]; exact hPc, va_K.moved hW.alike hKc, hDc.weaken (fun _ _ _ _ => trivial)⟩⟩ rfl rfl hl.1 rfl (lv_room (Nat.le_of_ble_eq_true rfl)) dL_law_19 ⟨Nat.le_of_ble_eq_true rfl, Nat.le_of_ble_eq_true rfl⟩) hS (fun q _ z => hFc q z) hFc (fun gu t Hq lq ht hvm hw hB hz1 hk1 hS => ?_)
  obtain ⟨gX, uX⟩ := gu
  obtain ⟨hP1, hK1, hD1⟩ := hB
  rw [ht] at hP1
  have hK1 := va_K.moved hvm.symm hK1
  obtain ⟨ho, f1, p1, w1, hXs, rX⟩ := hw
  obtain rfl : ga0 gX = q0 := ho
  obtain ⟨hP, hD⟩ := va_join (wr := []) (w1 := wd 0 gX uX) hP hD [0] [] rfl rfl (by decide) (by decide) hk1 hFc hP1 hD1
  have hK : va_K (dC, dI) vwCl (zty gX) s := hK1
  have hP : va_P (dC, dI) vwCl (wd 0 gX uX) Hq := hP
  have hD : va_D (fun q : Nat => s.heap.size ≤ q) (wd 0 gX uX) := hD
  refine lv_astore_n (lv' := [(1, .ref (ga0 gX)), (0, .ref b)]) hx hb dL_law_22 rfl hl (by decide) rfl (fun ls hl => ?_)
  refine va_new (ci := 1) (fs := zBlank) (C := RX1) (T := TX1) (N := 12) hx hb htsL inlX1 tyX1 tyX1_ok hown (htsL (.classLink RL 18 RX1) (by decide +kernel)) (htsL (.instantiable RX1 12) (by decide +kernel)) (htsL (.initialized RX1) (by decide +kernel)) hK hP hD hS hA rfl (fun j hj => by rcases (show j = 0 ∨ j = 1 ∨ j = 2 ∨ j = 3 ∨ j = 4 ∨ j = 5 ∨ j = 6 ∨ j = 7 ∨ j = 8 ∨ j = 9 ∨ j = 10 ∨ j = 11 by omega) with rfl | rfl | rfl | rfl | rfl | rfl | rfl | rfl | rfl | rfl | rfl | rfl <;> rfl) (Nat.le_of_ble_eq_true rfl) (Nat.le_of_ble_eq_true rfl) dL_law_23 (fun q1 Hq hP hD hS => ?_)
  have hP : va_P (dC, dI) vwCl (wd 0 gX uX ++ [(q1, .inr (1, zBlank))]) Hq := hP
  have hD : va_D (fun q : Nat => s.heap.size ≤ q) (wd 0 gX uX ++ [(q1, .inr (1, zBlank))]) := hD
  refine lv_dup hx hb dL_law_26 rfl ?_
  refine lv_aload_n hx hb dL_law_27 rfl (lv_at hl 1 rfl) ?_
  refine lv_iconst (v := nI 0) hx hb dL_law_28 (by decide) ?_
  refine va_calli (va_runS (As := [.ref b, .int (nI 0)]) (rest := [.ref q1, .ref q1]) ⟨hx, hb, hml, hown, htsL⟩ (kL_cell l b L xs (by omega) (j := 0) (by decide)) (va_cwS 2 htsL gL_law_L_cell rfl rfl rfl (by decide +kernel) ⟨Nat.le_of_ble_eq_true rfl, Nat.le_of_ble_eq_true rfl⟩) ⟨fun a U g mk q => ⟨q.1, va_X.moved (u := U) (U := U.calling g mk a) (Vm.Alike.refl U.vm) q.2⟩, fun U hU hW => ⟨rfl, by show va_X b L xs U U.heap; rw [hU]; exact (hX.kept (hS.2.1 b hbl hbA)).moved hW.alike⟩⟩ rfl rfl hl.1 rfl (lv_room (Nat.le_of_ble_eq_true rfl)) dL_law_29 ⟨Nat.le_of_ble_eq_true rfl, Nat.le_of_ble_eq_true rfl⟩) hS (fun q _ z => z.elim) (fun q z => z.elim) (fun r29 w t Hq lq ht hvm hw hB hz1 hk1 hS => ?_)
  have hP := hP.kept (H1 := Hq) (fun k q hk => hk1 q.1 ((hP k q hk).lt) (fun z => z.elim))
  obtain rfl : x = r29 := ex.trans hw.symm
  refine lv_aload_n hx hb dL_law_32 rfl (lv_at hl 1 rfl) ?_
  refine lv_iconst (v := nI 1) hx hb dL_law_33 (by decide) ?_
  refine va_calli (va_runS (As := [.ref b, .int (nI 1)]) (rest := [.int x, .ref q1, .ref q1]) ⟨hx, hb, hml, hown, htsL⟩ (kL_cell l b L xs (by omega) (j := 1) (by decide)) (va_cwS 2 htsL gL_law_L_cell rfl rfl rfl (by decide +kernel) ⟨Nat.le_of_ble_eq_true rfl, Nat.le_of_ble_eq_true rfl⟩) ⟨fun a U g mk q => ⟨q.1, va_X.moved (u := U) (U := U.calling g mk a) (Vm.Alike.refl U.vm) q.2⟩, fun U hU hW => ⟨rfl, by show va_X b L xs U U.heap; rw [hU]; exact (hX.kept (hS.2.1 b hbl hbA)).moved hW.alike⟩⟩ rfl rfl hl.1 rfl (lv_room (Nat.le_of_ble_eq_true rfl)) dL_law_34 ⟨Nat.le_of_ble_eq_true rfl, Nat.le_of_ble_eq_true rfl⟩) hS (fun q _ z => z.elim) (fun q z => z.elim) (fun r34 w t Hq lq ht hvm hw hB hz1 hk1 hS => ?_)
  have hP := hP.kept (H1 := Hq) (fun k q hk => hk1 q.1 ((hP k q hk).lt) (fun z => z.elim))
  obtain rfl : y = r34 := ey.trans hw.symm
  refine lv_aload_n hx hb dL_law_37 rfl (lv_at hl 1 rfl) ?_
  refine lv_iconst (v := nI 2) hx hb dL_law_38 (by decide) ?_
  refine va_calli (va_runS (As := [.ref b, .int (nI 2)]) (rest := [.int y, .int x, .ref q1, .ref q1]) ⟨hx, hb, hml, hown, htsL⟩ (kL_cell l b L xs (by omega) (j := 2) (by decide)) (va_cwS 2 htsL gL_law_L_cell rfl rfl rfl (by decide +kernel) ⟨Nat.le_of_ble_eq_true rfl, Nat.le_of_ble_eq_true rfl⟩) ⟨fun a U g mk q => ⟨q.1, va_X.moved (u := U) (U := U.calling g mk a) (Vm.Alike.refl U.vm) q.2⟩, fun U hU hW => ⟨rfl, by show va_X b L xs U U.heap; rw [hU]; exact (hX.kept (hS.2.1 b hbl hbA)).moved hW.alike⟩⟩ rfl rfl hl.1 rfl (lv_room (Nat.le_of_ble_eq_true rfl)) dL_law_39 ⟨Nat.le_of_ble_eq_true rfl, Nat.le_of_ble_eq_true rfl⟩) hS (fun q _ z => z.elim) (fun q z => z.elim) (fun r39 w t Hq lq ht hvm hw hB hz1 hk1 hS => ?_)
  have hP := hP.kept (H1 := Hq) (fun k q hk => hk1 q.1 ((hP k q hk).lt) (fun z => z.elim))
  obtain rfl : z = r39 := ez.trans hw.symm
  have hPc := hP.sub (ws' := [(q1, .inr (1, zBlank))]) [7] rfl
  have hDc := hD.sub (ws' := [(q1, .inr (1, zBlank))]) [7] (by decide) rfl
  have hKc := hK.sub (tys' := []) [] rfl
  have hFc := va_free (wc := [(q1, .inr (1, zBlank))]) hD hS hA [7] rfl
  refine va_callv (va_runI (b := q1) (As := [.int x, .int y, .int z]) (rest := [.ref q1]) ⟨hx, hb, hml, hown, htsL⟩ (kX1_init l dC dI q1 x y z Hq.size) (cwI 3 htsL gL_law_X1_init rfl rfl rfl (htsL (.initialized RX1) (by decide +kernel)) (htsL (.methodLink RL 20 yX1_init) (by decide +kernel)) (htsL (.instanceMethod yX1_init) (by decide +kernel)) rfl (by decide +kernel) ⟨Nat.le_of_ble_eq_true rfl, Nat.le_of_ble_eq_true rfl⟩) ⟨fun a U g mk q => by obtain ⟨q0, q1, qP, qK, qD⟩ := q; exact ⟨q0, q1, qP, va_K.moved (u := U) (U := U.calling g mk a) (Vm.Alike.refl U.vm) qK, qD⟩, fun U hU hW => ⟨rfl, by rw [hU], by rw [hU]; exact hPc, va_K.moved hW.alike hKc, hDc.weaken (fun _ _ _ _ => trivial)⟩⟩ rfl rfl hl.1 rfl (lv_room (Nat.le_of_ble_eq_true rfl)) dL_law_42 ⟨Nat.le_of_ble_eq_true rfl, Nat.le_of_ble_eq_true rfl⟩) hS (fun q _ z => hFc q z) hFc (fun gu t Hq lq ht hvm hw hB hz1 hk1 hS => ?_)
  obtain ⟨gM, uM⟩ := gu
  obtain ⟨hP1, hK1, hD1⟩ := hB
  rw [ht] at hP1
  have hK1 := va_K.moved hvm.symm hK1
  obtain ⟨ho2, f2, p2, w2, hMs, hM3, hM5, rM⟩ := hw
  obtain rfl : ga0 gM = q1 := ho2
  obtain ⟨hP, hD⟩ := va_join (wr := wd 0 gX uX) (w1 := wd 1 gM uM) hP hD [7] [0, 1, 2, 3, 4, 5, 6] rfl rfl (by decide) (by decide) hk1 hFc hP1 hD1
  have hK : va_K (dC, dI) vwCl (zty gX ++ zty gM) s := hK.app hK1
  refine lv_astore_n (lv' := [(2, .ref (ga0 gM)), (1, .ref (ga0 gX)), (0, .ref b)]) hx hb dL_law_45 rfl hl (by decide) rfl (fun ls hl => ?_)
  refine lv_iconst (v := nI 3) hx hb dL_law_46 (by decide) ?_
  refine lv_istore_n (lv' := [(3, .int (nI 3)), (2, .ref (ga0 gM)), (1, .ref (ga0 gX)), (0, .ref b)]) hx hb dL_law_47 rfl hl (by decide) rfl (fun ls hl => ?_)
  refine W.widen (k := 600000) (n := 7302250) (Nat.le_of_ble_eq_true rfl) (Nat.le_of_ble_eq_true rfl) ?_
  exact law_loop hL C0 ⟨f2.trans f1.symm, p2.trans p1.symm, w2.trans w1.symm⟩ hXs hMs hM3 hM5 (L - 3) 3 rfl (by decide) a00 uX uM (Rep_to (Nat.zero_le 3) (by decide) rX) (Rep_to (Nat.zero_le 3) (by decide) rM) _ _ ⟨hK, hP, hD, hS, hA⟩ ls (lv_sub hl [3, 2, 1, 0] rfl)
