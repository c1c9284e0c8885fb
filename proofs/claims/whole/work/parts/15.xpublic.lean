/-! ===== FramePool: the public methods ===== -/
set_option maxHeartbeats 4000000 in
set_option maxRecDepth 100000 in
theorem kX0_fetch (l : Launch) (dC : Nat → ClassId) (dI : Nat → Nat → Nat) {g : GE} {N : Nat} {a : AS} {u : CS} (hR : Rep g N a u) (hX : geS g = geW g) (hN1 : N + 1 < 2 ^ 20) (x : Int32) : zMI l yX0_fetch wsX0_fetch ({ frames := 5, cells := 0, slots := 0, locals := 128 }) dC dI 0 g u [.int (x)] (fun r u1 => r = (spFetch g a x).1 ∧ Rep g (N + 1) (spFetch g a x).2 u1) := by
  refine zMI_of (cc := cX0_fetch) (maxL := 3) (ret := (some .int)) (by decide) rfl (Nat.le_of_ble_eq_true rfl) ?_
  intro p e s m below meth c A ls Z Y hl
  have hin : ∀ w ∈ wsX00, w ∈ wsX0_fetch := fun w h => List.mem_cons_of_mem _ (List.mem_append_right _ h)
  obtain ⟨hx, hb, hml, hown, hts, hr, hlk⟩ := id Z
  have L33 := hts (.fieldLink RX0 33 "FramePool" "pins" "[I") (by decide +kernel)
  have L40 := hts (.fieldLink RX0 40 "FramePool" "marked" "[Z") (by decide +kernel)
  have hl : lv_has ls 3 [(0, .ref (ga0 g)), (1, .int (x))] := hl
  have hg := hR.1
  have hN := hR.2.1
  obtain ⟨b1, b2, b3, b4, b5, b6, b7⟩ := gokB hg
  obtain ⟨r3, r4, r5, r6, r7, r8, r9, r10, r11⟩ := id hR.2.2.1
  obtain ⟨i1, i2, i3, i4, i5⟩ := id hR.2.2.2
  refine lv_aload_n hx hb dX0_fetch_0 rfl (lv_at hl 0 rfl) ?_
  refine lv_iload_n hx hb dX0_fetch_1 rfl (lv_at hl 1 rfl) ?_
  refine z_callI (rest := []) Z Y rfl (kX0_isPage l dC dI hg u x) (cwV 1 hts gX0_fetch_X0_isPage rfl rfl rfl (by decide +kernel) ⟨Nat.le_of_ble_eq_true rfl, Nat.le_of_ble_eq_true rfl⟩) rfl hl.1 rfl (Nat.le_of_ble_eq_true rfl) dX0_fetch_2 ⟨Nat.zero_le _, Nat.zero_le _⟩ (fun r2 u2 Hq lq hw Y => ?_)
  obtain ⟨rfl, hw⟩ := hw
  rcases hw with ⟨rfl, hw2⟩ | ⟨rfl, hw2⟩
  · obtain ⟨q, hq, rfl⟩ := vp_in_of hw2 b2
    refine lv_if_ne (tgt := 11) hx hb dX0_fetch_5 (by decide) (fun _ => ?_) (fun c5 => absurd c5 (by decide))
    refine lv_aload_n hx hb dX0_fetch_11 rfl (lv_at hl 0 rfl) ?_
    refine lv_iload_n hx hb dX0_fetch_12 rfl (lv_at hl 1 rfl) ?_
    refine z_callI (rest := []) Z Y rfl (kX0_frameOf l dC dI hR (nI q)) (cwV 1 hts gX0_fetch_X0_frameOf rfl rfl rfl (by decide +kernel) ⟨Nat.le_of_ble_eq_true rfl, Nat.le_of_ble_eq_true rfl⟩) rfl hl.1 rfl (Nat.le_of_ble_eq_true rfl) dX0_fetch_13 ⟨Nat.zero_le _, Nat.zero_le _⟩ (fun r13 u13 Hq lq hw Y => ?_)
    obtain ⟨rfl, hw⟩ := hw
    rcases hw with ⟨f, q13, hf13, hq13, hx13, rfl, hp13, hfo13⟩ | ⟨rfl, hfo13⟩
    · refine lv_istore_n (lv' := [(2, .int (nI (f))), (0, .ref (ga0 g)), (1, .int (nI (q)))]) hx hb dX0_fetch_16 rfl hl (by decide) rfl (fun ls hl => ?_)
      refine lv_iload_n hx hb dX0_fetch_17 rfl (lv_at hl 0 rfl) ?_
      refine lv_iconst (v := (-1)) hx hb dX0_fetch_18 (by decide) ?_
      refine lv_icmp_ne (tgt := 40) hx hb dX0_fetch_19 (by decide) (fun _ => ?_) (fun c19 => absurd c19 (nI_ne_m1 (show f < 2 ^ 31 by omega)))
      refine lv_aload_n hx hb dX0_fetch_40 rfl (lv_at hl 1 rfl) ?_
      refine z_get (T := TX0) (v := .ref (ga6 g)) Z hin rfl Y 6 (by decide) L33 rfl rfl dX0_fetch_41 ?_
      refine lv_iload_n hx hb dX0_fetch_44 rfl (lv_at hl 0 rfl) ?_
      refine lv_dup2_11 hx hb dX0_fetch_45 rfl rfl ?_
      refine z_ld6 Z Y (f) (rfl) (by omega) (by omega) dX0_fetch_46 ?_
      refine z_top (nI (apn a f)) (r6 f hf13) ?_
      refine lv_iconst (v := nI (1)) hx hb dX0_fetch_47 (by decide) ?_
      refine lv_iadd hx hb dX0_fetch_48 ?_
      refine z_top (nI ((apn a f) + (1))) (nI_add (apn a f) (1)) ?_
      refine z_st6 (x := nI ((apn a f) + (1))) Z Y (f) (rfl) (by omega) (by omega) dX0_fetch_49 (fun Hq lq Y => ?_)
      refine lv_aload_n hx hb dX0_fetch_50 rfl (lv_at hl 1 rfl) ?_
      refine z_get (T := TX0) (v := .ref (ga8 g)) Z hin rfl Y 8 (by decide) L40 rfl rfl dX0_fetch_51 ?_
      refine lv_iload_n hx hb dX0_fetch_54 rfl (lv_at hl 0 rfl) ?_
      refine lv_iconst (v := nI (1)) hx hb dX0_fetch_55 (by decide) ?_
      refine z_st8 (x := nI (1)) Z Y (f) (rfl) (by omega) (by omega) (by decide) dX0_fetch_56 (fun Hq lq Y => ?_)
      refine lv_iload_n hx hb dX0_fetch_57 rfl (lv_at hl 0 rfl) ?_
      exact z_ret (v := nI (f)) (u := ps8 (ps6 (u) (upd (cs6 (u)) (f) (nI ((apn a f) + (1))))) (upd (cs8 (ps6 (u) (upd (cs6 (u)) (f) (nI ((apn a f) + (1)))))) (f) (nI (1)))) Z Y (rfl) (by rw [spFetch_hit hw2 hfo13]; exact ⟨rfl, hg, hN1, Rp_pin f hR.2.2.1, Iv_pin hf13 (by rw [hp13]; exact nI_ne_m1 (show q13 < 2 ^ 31 by omega)) hR.2.2.2⟩) dX0_fetch_58
    · refine lv_istore_n (lv' := [(2, .int ((-1))), (0, .ref (ga0 g)), (1, .int (nI (q)))]) hx hb dX0_fetch_16 rfl hl (by decide) rfl (fun ls hl => ?_)
      refine lv_iload_n hx hb dX0_fetch_17 rfl (lv_at hl 0 rfl) ?_
      refine lv_iconst (v := (-1)) hx hb dX0_fetch_18 (by decide) ?_
      refine lv_icmp_ne (tgt := 40) hx hb dX0_fetch_19 (by decide) (fun c19 => absurd (rfl) c19) (fun _ => ?_)
      refine lv_aload_n hx hb dX0_fetch_22 rfl (lv_at hl 1 rfl) ?_
      refine z_callI (rest := []) Z Y rfl (kX0_findFrame l dC dI hR hX) (cwV 0 hts gX0_fetch_X0_findFrame rfl rfl rfl (by decide +kernel) ⟨Nat.le_of_ble_eq_true rfl, Nat.le_of_ble_eq_true rfl⟩) rfl hl.1 rfl (Nat.le_of_ble_eq_true rfl) dX0_fetch_23 ⟨Nat.zero_le _, Nat.zero_le _⟩ (fun r23 u23 Hq lq hw Y => ?_)
      obtain ⟨hw1, hR23⟩ := hw
      rcases hsf : (spFind g a).2 with _ | f
      · obtain rfl : r23 = -1 := by rw [hw1, hsf]; rfl
        refine lv_istore_n (lv' := [(2, .int ((-1))), (0, .ref (ga0 g)), (1, .int (nI (q)))]) hx hb dX0_fetch_26 rfl hl (by decide) rfl (fun ls hl => ?_)
        refine lv_iload_n hx hb dX0_fetch_27 rfl (lv_at hl 0 rfl) ?_
        refine lv_iconst (v := (-1)) hx hb dX0_fetch_28 (by decide) ?_
        refine lv_icmp_ne (tgt := 34) hx hb dX0_fetch_29 (by decide) (fun c29 => absurd (rfl) c29) (fun _ => ?_)
        refine lv_iconst (v := (-1)) hx hb dX0_fetch_32 (by decide) ?_
        exact z_ret (v := (-1)) (u := u23) Z Y (rfl) (by rw [spFetch_all hw2 hfo13 hsf]; exact ⟨rfl, Rep_more hN1 hR23⟩) dX0_fetch_33
      · obtain rfl : r23 = nI f := by rw [hw1, hsf]; rfl
        obtain ⟨hno, hfl⟩ := spFind_ok (x := nI q) hg (nI_ne_m1 (show q < 2 ^ 31 by omega)) hR.2.2.2 (fop_no hfo13 hw2)
        have hf := hfl f hsf
        refine lv_istore_n (lv' := [(2, .int (nI (f))), (0, .ref (ga0 g)), (1, .int (nI (q)))]) hx hb dX0_fetch_26 rfl hl (by decide) rfl (fun ls hl => ?_)
        refine lv_iload_n hx hb dX0_fetch_27 rfl (lv_at hl 0 rfl) ?_
        refine lv_iconst (v := (-1)) hx hb dX0_fetch_28 (by decide) ?_
        refine lv_icmp_ne (tgt := 34) hx hb dX0_fetch_29 (by decide) (fun _ => ?_) (fun c29 => absurd c29 (nI_ne_m1 (show f < 2 ^ 31 by omega)))
        refine lv_aload_n hx hb dX0_fetch_34 rfl (lv_at hl 1 rfl) ?_
        refine lv_iload_n hx hb dX0_fetch_35 rfl (lv_at hl 0 rfl) ?_
        refine lv_iload_n hx hb dX0_fetch_36 rfl (lv_at hl 2 rfl) ?_
        refine z_callV (rest := []) Z Y rfl (kX0_readInto l dC dI hR23 hX hf hq hno) (cwV 2 hts gX0_fetch_X0_readInto rfl rfl rfl (by decide +kernel) ⟨Nat.le_of_ble_eq_true rfl, Nat.le_of_ble_eq_true rfl⟩) rfl hl.1 rfl (Nat.le_of_ble_eq_true rfl) dX0_fetch_37 ⟨Nat.zero_le _, Nat.zero_le _⟩ (fun u37 Hq lq hw Y => ?_)
        have hR37 := hw
        refine lv_aload_n hx hb dX0_fetch_40 rfl (lv_at hl 1 rfl) ?_
        refine z_get (T := TX0) (v := .ref (ga6 g)) Z hin rfl Y 6 (by decide) L33 rfl rfl dX0_fetch_41 ?_
        refine lv_iload_n hx hb dX0_fetch_44 rfl (lv_at hl 0 rfl) ?_
        refine lv_dup2_11 hx hb dX0_fetch_45 rfl rfl ?_
        refine z_ld6 Z Y (f) (rfl) (by omega) (by omega) dX0_fetch_46 ?_
        refine z_top (nI (apn (oRead f q (spFind g a).1) f)) (hR37.2.2.1.2.2.2.1 f hf) ?_
        refine lv_iconst (v := nI (1)) hx hb dX0_fetch_47 (by decide) ?_
        refine lv_iadd hx hb dX0_fetch_48 ?_
        refine z_top (nI ((apn (oRead f q (spFind g a).1) f) + (1))) (nI_add (apn (oRead f q (spFind g a).1) f) (1)) ?_
        refine z_st6 (x := nI ((apn (oRead f q (spFind g a).1) f) + (1))) Z Y (f) (rfl) (by omega) (by omega) dX0_fetch_49 (fun Hq lq Y => ?_)
        refine lv_aload_n hx hb dX0_fetch_50 rfl (lv_at hl 1 rfl) ?_
        refine z_get (T := TX0) (v := .ref (ga8 g)) Z hin rfl Y 8 (by decide) L40 rfl rfl dX0_fetch_51 ?_
        refine lv_iload_n hx hb dX0_fetch_54 rfl (lv_at hl 0 rfl) ?_
        refine lv_iconst (v := nI (1)) hx hb dX0_fetch_55 (by decide) ?_
        refine z_st8 (x := nI (1)) Z Y (f) (rfl) (by omega) (by omega) (by decide) dX0_fetch_56 (fun Hq lq Y => ?_)
        refine lv_iload_n hx hb dX0_fetch_57 rfl (lv_at hl 0 rfl) ?_
        exact z_ret (v := nI (f)) (u := ps8 (ps6 (u37) (upd (cs6 (u37)) (f) (nI ((apn (oRead f q (spFind g a).1) f) + (1))))) (upd (cs8 (ps6 (u37) (upd (cs6 (u37)) (f) (nI ((apn (oRead f q (spFind g a).1) f) + (1)))))) (f) (nI (1)))) Z Y (rfl) (by rw [spFetch_new (show q < 2 ^ 31 by omega) hw2 hfo13 hsf]; exact ⟨rfl, hg, hN1, Rp_pin f hR37.2.2.1, Iv_pin hf (by show upd _ f _ f ≠ -1; rw [pk_us]; exact nI_ne_m1 (show q < 2 ^ 31 by omega)) hR37.2.2.2⟩) dX0_fetch_58
  · refine lv_if_ne (tgt := 11) hx hb dX0_fetch_5 (by decide) (fun c5 => absurd (by decide) c5) (fun _ => ?_)
    refine lv_bipush (v := (-2)) hx hb dX0_fetch_8 (by decide) ?_
    exact z_ret (v := (-2)) (u := u) Z Y (rfl) (by rw [spFetch_bad hw2]; exact ⟨rfl, Rep_more hN1 hR⟩) dX0_fetch_10

set_option maxHeartbeats 4000000 in
set_option maxRecDepth 100000 in
theorem kX0_unpin (l : Launch) (dC : Nat → ClassId) (dI : Nat → Nat → Nat) {g : GE} {N : Nat} {a : AS} {u : CS} (hR : Rep g N a u) (x : Int32) : zMI l yX0_unpin wsX0_unpin ({ frames := 2, cells := 0, slots := 0, locals := 42 }) dC dI 0 g u [.int (x)] (fun r u1 => r = (spUnpin g a x).1 ∧ Rep g N (spUnpin g a x).2 u1) := by
  refine zMI_of (cc := cX0_unpin) (maxL := 2) (ret := (some .int)) (by decide) rfl (Nat.le_of_ble_eq_true rfl) ?_
  intro p e s m below meth c A ls Z Y hl
  have hin : ∀ w ∈ wsX00, w ∈ wsX0_unpin := fun w h => List.mem_cons_of_mem _ (List.mem_append_right _ h)
  obtain ⟨hx, hb, hml, hown, hts, hr, hlk⟩ := id Z
  have L33 := hts (.fieldLink RX0 33 "FramePool" "pins" "[I") (by decide +kernel)
  have hl : lv_has ls 2 [(0, .ref (ga0 g)), (1, .int (x))] := hl
  have hg := hR.1
  have hN := hR.2.1
  obtain ⟨b1, b2, b3, b4, b5, b6, b7⟩ := gokB hg
  obtain ⟨r3, r4, r5, r6, r7, r8, r9, r10, r11⟩ := id hR.2.2.1
  obtain ⟨i1, i2, i3, i4, i5⟩ := id hR.2.2.2
  refine lv_aload_n hx hb dX0_unpin_0 rfl (lv_at hl 0 rfl) ?_
  refine lv_iload_n hx hb dX0_unpin_1 rfl (lv_at hl 1 rfl) ?_
  refine z_callI (rest := []) Z Y rfl (kX0_isPinnedFrame l dC dI hR x) (cwV 1 hts gX0_unpin_X0_isPinnedFrame rfl rfl rfl (by decide +kernel) ⟨Nat.le_of_ble_eq_true rfl, Nat.le_of_ble_eq_true rfl⟩) rfl hl.1 rfl (Nat.le_of_ble_eq_true rfl) dX0_unpin_2 ⟨Nat.zero_le _, Nat.zero_le _⟩ (fun r2 u2 Hq lq hw Y => ?_)
  obtain ⟨rfl, hw⟩ := hw
  rcases hw with ⟨rfl, hw2⟩ | ⟨rfl, hw2⟩
  · obtain ⟨hv2, hw0⟩ := hw2
    obtain ⟨k, hk, rfl⟩ := vp_in_of hv2 b1
    rw [nI_clamp (show k < 2 ^ 31 by omega)] at hw0
    refine lv_if_ne (tgt := 11) hx hb dX0_unpin_5 (by decide) (fun _ => ?_) (fun c5 => absurd c5 (by decide))
    refine lv_aload_n hx hb dX0_unpin_11 rfl (lv_at hl 0 rfl) ?_
    refine z_get (T := TX0) (v := .ref (ga6 g)) Z hin rfl Y 6 (by decide) L33 rfl rfl dX0_unpin_12 ?_
    refine lv_iload_n hx hb dX0_unpin_15 rfl (lv_at hl 1 rfl) ?_
    refine lv_dup2_11 hx hb dX0_unpin_16 rfl rfl ?_
    refine z_ld6 Z Y (k) (rfl) (by omega) (by omega) dX0_unpin_17 ?_
    refine z_top (nI (apn a k)) (r6 k hk) ?_
    refine lv_iconst (v := nI (1)) hx hb dX0_unpin_18 (by decide) ?_
    refine lv_isub hx hb dX0_unpin_19 ?_
    refine z_top (nI (apn a k - 1)) (pk_sub hw0) ?_
    refine z_st6 (x := nI (apn a k - 1)) Z Y (k) (rfl) (by omega) (by omega) dX0_unpin_20 (fun Hq lq Y => ?_)
    refine lv_aload_n hx hb dX0_unpin_21 rfl (lv_at hl 0 rfl) ?_
    refine z_get (T := TX0) (v := .ref (ga6 g)) Z hin rfl Y 6 (by decide) L33 rfl rfl dX0_unpin_22 ?_
    refine lv_iload_n hx hb dX0_unpin_25 rfl (lv_at hl 1 rfl) ?_
    refine z_ld6 Z Y (k) (rfl) (by omega) (by omega) dX0_unpin_26 ?_
    refine z_top (nI (apn a k - 1)) (pk_us) ?_
    exact z_ret (v := nI (apn a k - 1)) (u := ps6 (u) (upd (cs6 (u)) (k) (nI (apn a k - 1)))) Z Y (rfl) (by rw [spUnpin_t (show k < 2 ^ 31 by omega) hv2 hw0]; exact ⟨rfl, hg, hN, Rp_unpin k hR.2.2.1, Iv_unpin hk hR.2.2.2⟩) dX0_unpin_27
  · refine lv_if_ne (tgt := 11) hx hb dX0_unpin_5 (by decide) (fun c5 => absurd (by decide) c5) (fun _ => ?_)
    refine lv_bipush (v := (-3)) hx hb dX0_unpin_8 (by decide) ?_
    exact z_ret (v := (-3)) (u := u) Z Y (rfl) (by rw [spUnpin_f hw2]; exact ⟨rfl, hR⟩) dX0_unpin_10

set_option maxHeartbeats 4000000 in
set_option maxRecDepth 100000 in
theorem kX0_writeWord (l : Launch) (dC : Nat → ClassId) (dI : Nat → Nat → Nat) {g : GE} {N : Nat} {a : AS} {u : CS} (hR : Rep g N a u) (hX : geS g = geW g) (x y v : Int32) : zMI l yX0_writeWord wsX0_writeWord ({ frames := 2, cells := 0, slots := 0, locals := 42 }) dC dI 0 g u [.int (x), .int (y), .int (v)] (fun r u1 => r = (spWriteW g a x y v).1 ∧ Rep g N (spWriteW g a x y v).2 u1) := by
  refine zMI_of (cc := cX0_writeWord) (maxL := 4) (ret := (some .int)) (by decide) rfl (Nat.le_of_ble_eq_true rfl) ?_
  intro p e s m below meth c A ls Z Y hl
  have hin : ∀ w ∈ wsX00, w ∈ wsX0_writeWord := fun w h => List.mem_cons_of_mem _ (List.mem_append_right _ h)
  obtain ⟨hx, hb, hml, hown, hts, hr, hlk⟩ := id Z
  have L20 := hts (.fieldLink RX0 20 "FramePool" "wordCount" "I") (by decide +kernel)
  have L27 := hts (.fieldLink RX0 27 "FramePool" "frameWords" "[I") (by decide +kernel)
  have L36 := hts (.fieldLink RX0 36 "FramePool" "dirty" "[Z") (by decide +kernel)
  have hl : lv_has ls 4 [(0, .ref (ga0 g)), (1, .int (x)), (2, .int (y)), (3, .int (v))] := hl
  have hg := hR.1
  have hN := hR.2.1
  obtain ⟨b1, b2, b3, b4, b5, b6, b7⟩ := gokB hg
  obtain ⟨r3, r4, r5, r6, r7, r8, r9, r10, r11⟩ := id hR.2.2.1
  obtain ⟨i1, i2, i3, i4, i5⟩ := id hR.2.2.2
  refine lv_aload_n hx hb dX0_writeWord_0 rfl (lv_at hl 0 rfl) ?_
  refine lv_iload_n hx hb dX0_writeWord_1 rfl (lv_at hl 1 rfl) ?_
  refine z_callI (rest := []) Z Y rfl (kX0_isPinnedFrame l dC dI hR x) (cwV 1 hts gX0_writeWord_X0_isPinnedFrame rfl rfl rfl (by decide +kernel) ⟨Nat.le_of_ble_eq_true rfl, Nat.le_of_ble_eq_true rfl⟩) rfl hl.1 rfl (Nat.le_of_ble_eq_true rfl) dX0_writeWord_2 ⟨Nat.zero_le _, Nat.zero_le _⟩ (fun r2 u2 Hq lq hw Y => ?_)
  obtain ⟨rfl, hw⟩ := hw
  rcases hw with ⟨rfl, hw2⟩ | ⟨rfl, hw2⟩
  · refine lv_if_ne (tgt := 11) hx hb dX0_writeWord_5 (by decide) (fun _ => ?_) (fun c5 => absurd c5 (by decide))
    refine lv_aload_n hx hb dX0_writeWord_11 rfl (lv_at hl 0 rfl) ?_
    refine lv_iload_n hx hb dX0_writeWord_12 rfl (lv_at hl 2 rfl) ?_
    refine z_callI (rest := []) Z Y rfl (kX0_isOffset l dC dI hg u y) (cwV 1 hts gX0_writeWord_X0_isOffset rfl rfl rfl (by decide +kernel) ⟨Nat.le_of_ble_eq_true rfl, Nat.le_of_ble_eq_true rfl⟩) rfl hl.1 rfl (Nat.le_of_ble_eq_true rfl) dX0_writeWord_13 ⟨Nat.zero_le _, Nat.zero_le _⟩ (fun r13 u13 Hq lq hw Y => ?_)
    obtain ⟨rfl, hw⟩ := hw
    rcases hw with ⟨rfl, hw13⟩ | ⟨rfl, hw13⟩
    · obtain ⟨hv2, hw0⟩ := hw2
      obtain ⟨k, hk, rfl⟩ := vp_in_of hv2 b1
      rw [nI_clamp (show k < 2 ^ 31 by omega)] at hw0
      obtain ⟨j, hj, rfl⟩ := vp_in_of hw13 b3
      refine lv_if_ne (tgt := 22) hx hb dX0_writeWord_16 (by decide) (fun _ => ?_) (fun c16 => absurd c16 (by decide))
      refine lv_aload_n hx hb dX0_writeWord_22 rfl (lv_at hl 0 rfl) ?_
      refine z_get (T := TX0) (v := .ref (ga4 g)) Z hin rfl Y 4 (by decide) L27 rfl rfl dX0_writeWord_23 ?_
      refine lv_iload_n hx hb dX0_writeWord_26 rfl (lv_at hl 1 rfl) ?_
      refine lv_aload_n hx hb dX0_writeWord_27 rfl (lv_at hl 0 rfl) ?_
      refine z_get (T := TX0) (v := .int (nI (geW g))) Z hin rfl Y 2 (by decide) L20 rfl rfl dX0_writeWord_28 ?_
      refine lv_imul hx hb dX0_writeWord_31 ?_
      refine z_top (nI (k * geS g)) (by rw [hX]; exact pk_mul _ _) ?_
      refine lv_iload_n hx hb dX0_writeWord_32 rfl (lv_at hl 2 rfl) ?_
      refine lv_iadd hx hb dX0_writeWord_33 ?_
      refine z_top (nI ((k * geS g) + (j))) (nI_add (k * geS g) (j)) ?_
      refine lv_iload_n hx hb dX0_writeWord_34 rfl (lv_at hl 3 rfl) ?_
      refine z_st4 (x := v) Z Y ((k * geS g) + (j)) (rfl) (lt4 hg hk hj rfl) (by omega) dX0_writeWord_35 (fun Hq lq Y => ?_)
      refine lv_aload_n hx hb dX0_writeWord_36 rfl (lv_at hl 0 rfl) ?_
      refine z_get (T := TX0) (v := .ref (ga7 g)) Z hin rfl Y 7 (by decide) L36 rfl rfl dX0_writeWord_37 ?_
      refine lv_iload_n hx hb dX0_writeWord_40 rfl (lv_at hl 1 rfl) ?_
      refine lv_iconst (v := nI (1)) hx hb dX0_writeWord_41 (by decide) ?_
      refine z_st7 (x := nI (1)) Z Y (k) (rfl) (by omega) (by omega) (by decide) dX0_writeWord_42 (fun Hq lq Y => ?_)
      refine lv_iconst (v := nI (0)) hx hb dX0_writeWord_43 (by decide) ?_
      exact z_ret (v := nI (0)) (u := ps7 (ps4 (u) (upd (cs4 (u)) ((k * geS g) + (j)) (v))) (upd (cs7 (ps4 (u) (upd (cs4 (u)) ((k * geS g) + (j)) (v)))) (k) (nI (1)))) Z Y (rfl) (by rw [spWriteW_t (show k < 2 ^ 31 by omega) (show j < 2 ^ 31 by omega) hv2 hw0 hw13]; exact ⟨rfl, hg, hN, Rp_word k v hg hj hR.2.2.1, Iv_row _ (pn_pg hR.2.2.2 hk hw0) hR.2.2.2⟩) dX0_writeWord_44
    · refine lv_if_ne (tgt := 22) hx hb dX0_writeWord_16 (by decide) (fun c16 => absurd (by decide) c16) (fun _ => ?_)
      refine lv_bipush (v := (-4)) hx hb dX0_writeWord_19 (by decide) ?_
      exact z_ret (v := (-4)) (u := u) Z Y (rfl) (by rw [spWriteW_o hw2 hw13]; exact ⟨rfl, hR⟩) dX0_writeWord_21
  · refine lv_if_ne (tgt := 11) hx hb dX0_writeWord_5 (by decide) (fun c5 => absurd (by decide) c5) (fun _ => ?_)
    refine lv_bipush (v := (-3)) hx hb dX0_writeWord_8 (by decide) ?_
    exact z_ret (v := (-3)) (u := u) Z Y (rfl) (by rw [spWriteW_f hw2]; exact ⟨rfl, hR⟩) dX0_writeWord_10

set_option maxHeartbeats 4000000 in
set_option maxRecDepth 100000 in
theorem kX0_flush (l : Launch) (dC : Nat → ClassId) (dI : Nat → Nat → Nat) {g : GE} {N : Nat} {a : AS} {u : CS} (hR : Rep g N a u) (hX : geS g = geW g) (x : Int32) : zMI l yX0_flush wsX0_flush ({ frames := 3, cells := 0, slots := 0, locals := 85 }) dC dI 0 g u [.int (x)] (fun r u1 => r = (spFlush g a x).1 ∧ Rep g N (spFlush g a x).2 u1) := by
  refine zMI_of (cc := cX0_flush) (maxL := 3) (ret := (some .int)) (by decide) rfl (Nat.le_of_ble_eq_true rfl) ?_
  intro p e s m below meth c A ls Z Y hl
  have hin : ∀ w ∈ wsX00, w ∈ wsX0_flush := fun w h => List.mem_cons_of_mem _ (List.mem_append_right _ h)
  obtain ⟨hx, hb, hml, hown, hts, hr, hlk⟩ := id Z
  have L36 := hts (.fieldLink RX0 36 "FramePool" "dirty" "[Z") (by decide +kernel)
  have hl : lv_has ls 3 [(0, .ref (ga0 g)), (1, .int (x))] := hl
  have hg := hR.1
  have hN := hR.2.1
  obtain ⟨b1, b2, b3, b4, b5, b6, b7⟩ := gokB hg
  obtain ⟨r3, r4, r5, r6, r7, r8, r9, r10, r11⟩ := id hR.2.2.1
  obtain ⟨i1, i2, i3, i4, i5⟩ := id hR.2.2.2
  refine lv_aload_n hx hb dX0_flush_0 rfl (lv_at hl 0 rfl) ?_
  refine lv_iload_n hx hb dX0_flush_1 rfl (lv_at hl 1 rfl) ?_
  refine z_callI (rest := []) Z Y rfl (kX0_frameOf l dC dI hR x) (cwV 1 hts gX0_flush_X0_frameOf rfl rfl rfl (by decide +kernel) ⟨Nat.le_of_ble_eq_true rfl, Nat.le_of_ble_eq_true rfl⟩) rfl hl.1 rfl (Nat.le_of_ble_eq_true rfl) dX0_flush_2 ⟨Nat.zero_le _, Nat.zero_le _⟩ (fun r2 u2 Hq lq hw Y => ?_)
  obtain ⟨rfl, hw⟩ := hw
  rcases hw with ⟨f, q, hf, hq, hxq, rfl, hp, hfo⟩ | ⟨rfl, hfo⟩
  · refine lv_istore_n (lv' := [(2, .int (nI (f))), (0, .ref (ga0 g)), (1, .int (x))]) hx hb dX0_flush_5 rfl hl (by decide) rfl (fun ls hl => ?_)
    refine lv_iload_n hx hb dX0_flush_6 rfl (lv_at hl 0 rfl) ?_
    refine lv_iconst (v := (-1)) hx hb dX0_flush_7 (by decide) ?_
    refine lv_icmp_eq (tgt := 20) hx hb dX0_flush_8 (by decide) (fun c8 => absurd c8 (nI_ne_m1 (show f < 2 ^ 31 by omega))) (fun _ => ?_)
    refine lv_aload_n hx hb dX0_flush_11 rfl (lv_at hl 1 rfl) ?_
    refine z_get (T := TX0) (v := .ref (ga7 g)) Z hin rfl Y 7 (by decide) L36 rfl rfl dX0_flush_12 ?_
    refine lv_iload_n hx hb dX0_flush_15 rfl (lv_at hl 0 rfl) ?_
    refine z_ld7 Z Y (f) (rfl) (by omega) (by omega) dX0_flush_16 ?_
    refine z_top (adt a f) (r7 f hf) ?_
    refine lv_if_ne (tgt := 22) hx hb dX0_flush_17 (by decide) (fun c17 => ?_) (fun c17 => ?_)
    · refine lv_aload_n hx hb dX0_flush_22 rfl (lv_at hl 1 rfl) ?_
      refine lv_iload_n hx hb dX0_flush_23 rfl (lv_at hl 0 rfl) ?_
      refine z_callV (rest := []) Z Y rfl (kX0_writeBack l dC dI hR hX hf hq hp) (cwV 1 hts gX0_flush_X0_writeBack rfl rfl rfl (by decide +kernel) ⟨Nat.le_of_ble_eq_true rfl, Nat.le_of_ble_eq_true rfl⟩) rfl hl.1 rfl (Nat.le_of_ble_eq_true rfl) dX0_flush_24 ⟨Nat.zero_le _, Nat.zero_le _⟩ (fun u24 Hq lq hw Y => ?_)
      refine lv_iconst (v := nI (1)) hx hb dX0_flush_27 (by decide) ?_
      exact z_ret (v := nI (1)) (u := u24) Z Y (rfl) (by rw [spFlush_1 (show q < 2 ^ 31 by omega) hfo c17 hp]; exact ⟨rfl, hw⟩) dX0_flush_28
    · refine lv_iconst (v := nI (0)) hx hb dX0_flush_20 (by decide) ?_
      exact z_ret (v := nI (0)) (u := u) Z Y (rfl) (by rw [spFlush_0 hfo c17]; exact ⟨rfl, hR⟩) dX0_flush_21
  · refine lv_istore_n (lv' := [(2, .int ((-1))), (0, .ref (ga0 g)), (1, .int (x))]) hx hb dX0_flush_5 rfl hl (by decide) rfl (fun ls hl => ?_)
    refine lv_iload_n hx hb dX0_flush_6 rfl (lv_at hl 0 rfl) ?_
    refine lv_iconst (v := (-1)) hx hb dX0_flush_7 (by decide) ?_
    refine lv_icmp_eq (tgt := 20) hx hb dX0_flush_8 (by decide) (fun _ => ?_) (fun c8 => absurd (rfl) c8)
    refine lv_iconst (v := nI (0)) hx hb dX0_flush_20 (by decide) ?_
    exact z_ret (v := nI (0)) (u := u) Z Y (rfl) (by rw [spFlush_no hfo]; exact ⟨rfl, hR⟩) dX0_flush_21

set_option maxHeartbeats 4000000 in
set_option maxRecDepth 100000 in
theorem kX0_drop (l : Launch) (dC : Nat → ClassId) (dI : Nat → Nat → Nat) {g : GE} {N : Nat} {a : AS} {u : CS} (hR : Rep g N a u) (x : Int32) : zMI l yX0_drop wsX0_drop ({ frames := 2, cells := 0, slots := 0, locals := 43 }) dC dI 0 g u [.int (x)] (fun r u1 => r = (spDrop g a x).1 ∧ Rep g N (spDrop g a x).2 u1) := by
  refine zMI_of (cc := cX0_drop) (maxL := 3) (ret := (some .boolean)) (by decide) rfl (Nat.le_of_ble_eq_true rfl) ?_
  intro p e s m below meth c A ls Z Y hl
  have hin : ∀ w ∈ wsX00, w ∈ wsX0_drop := fun w h => List.mem_cons_of_mem _ (List.mem_append_right _ h)
  obtain ⟨hx, hb, hml, hown, hts, hr, hlk⟩ := id Z
  have L33 := hts (.fieldLink RX0 33 "FramePool" "pins" "[I") (by decide +kernel)
  have hl : lv_has ls 3 [(0, .ref (ga0 g)), (1, .int (x))] := hl
  have hg := hR.1
  have hN := hR.2.1
  obtain ⟨b1, b2, b3, b4, b5, b6, b7⟩ := gokB hg
  obtain ⟨r3, r4, r5, r6, r7, r8, r9, r10, r11⟩ := id hR.2.2.1
  obtain ⟨i1, i2, i3, i4, i5⟩ := id hR.2.2.2
  refine lv_aload_n hx hb dX0_drop_0 rfl (lv_at hl 0 rfl) ?_
  refine lv_iload_n hx hb dX0_drop_1 rfl (lv_at hl 1 rfl) ?_
  refine z_callI (rest := []) Z Y rfl (kX0_frameOf l dC dI hR x) (cwV 1 hts gX0_drop_X0_frameOf rfl rfl rfl (by decide +kernel) ⟨Nat.le_of_ble_eq_true rfl, Nat.le_of_ble_eq_true rfl⟩) rfl hl.1 rfl (Nat.le_of_ble_eq_true rfl) dX0_drop_2 ⟨Nat.zero_le _, Nat.zero_le _⟩ (fun r2 u2 Hq lq hw Y => ?_)
  obtain ⟨rfl, hw⟩ := hw
  rcases hw with ⟨f, q, hf, hq, hxq, rfl, hp, hfo⟩ | ⟨rfl, hfo⟩
  · refine lv_istore_n (lv' := [(2, .int (nI (f))), (0, .ref (ga0 g)), (1, .int (x))]) hx hb dX0_drop_5 rfl hl (by decide) rfl (fun ls hl => ?_)
    refine lv_iload_n hx hb dX0_drop_6 rfl (lv_at hl 0 rfl) ?_
    refine lv_iconst (v := (-1)) hx hb dX0_drop_7 (by decide) ?_
    refine lv_icmp_eq (tgt := 20) hx hb dX0_drop_8 (by decide) (fun c8 => absurd c8 (nI_ne_m1 (show f < 2 ^ 31 by omega))) (fun _ => ?_)
    refine lv_aload_n hx hb dX0_drop_11 rfl (lv_at hl 1 rfl) ?_
    refine z_get (T := TX0) (v := .ref (ga6 g)) Z hin rfl Y 6 (by decide) L33 rfl rfl dX0_drop_12 ?_
    refine lv_iload_n hx hb dX0_drop_15 rfl (lv_at hl 0 rfl) ?_
    refine z_ld6 Z Y (f) (rfl) (by omega) (by omega) dX0_drop_16 ?_
    refine z_top (nI (apn a f)) (r6 f hf) ?_
    have hb6 : apn a f < 2 ^ 31 := by have := pn31 hR hf; omega
    refine lv_if_le (tgt := 22) hx hb dX0_drop_17 (by decide) (fun c17 => ?_) (fun c17 => ?_)
    · refine lv_aload_n hx hb dX0_drop_22 rfl (lv_at hl 1 rfl) ?_
      refine lv_iload_n hx hb dX0_drop_23 rfl (lv_at hl 0 rfl) ?_
      refine z_callV (rest := []) Z Y rfl (kX0_makeEmpty l dC dI hg u hf) (cwV 1 hts gX0_drop_X0_makeEmpty rfl rfl rfl (by decide +kernel) ⟨Nat.le_of_ble_eq_true rfl, Nat.le_of_ble_eq_true rfl⟩) rfl hl.1 rfl (Nat.le_of_ble_eq_true rfl) dX0_drop_24 ⟨Nat.zero_le _, Nat.zero_le _⟩ (fun u24 Hq lq hw Y => ?_)
      subst hw
      refine lv_iconst (v := nI (1)) hx hb dX0_drop_27 (by decide) ?_
      exact z_ret (v := nI (1)) (u := (cs3 u, cs4 u, upd (cs5 u) f (-1), upd (cs6 u) f (nI 0), upd (cs7 u) f (nI 0), upd (cs8 u) f (nI 0), csh u, csr u, csw u)) Z Y (rfl) (by rw [spDrop_1 hfo (by have := (nI_le0 hb6).mp c17; omega)]; exact ⟨rfl, hg, hN, Rp_empty f hR.2.2.1, Iv_empty f hR.2.2.2⟩) dX0_drop_28
    · refine lv_iconst (v := nI (0)) hx hb dX0_drop_20 (by decide) ?_
      exact z_ret (v := nI (0)) (u := u) Z Y (rfl) (by rw [spDrop_0 hfo (Nat.pos_of_ne_zero (fun z => c17 ((nI_le0 hb6).mpr z)))]; exact ⟨rfl, hR⟩) dX0_drop_21
  · refine lv_istore_n (lv' := [(2, .int ((-1))), (0, .ref (ga0 g)), (1, .int (x))]) hx hb dX0_drop_5 rfl hl (by decide) rfl (fun ls hl => ?_)
    refine lv_iload_n hx hb dX0_drop_6 rfl (lv_at hl 0 rfl) ?_
    refine lv_iconst (v := (-1)) hx hb dX0_drop_7 (by decide) ?_
    refine lv_icmp_eq (tgt := 20) hx hb dX0_drop_8 (by decide) (fun _ => ?_) (fun c8 => absurd (rfl) c8)
    refine lv_iconst (v := nI (0)) hx hb dX0_drop_20 (by decide) ?_
    exact z_ret (v := nI (0)) (u := u) Z Y (rfl) (by rw [spDrop_no hfo]; exact ⟨rfl, hR⟩) dX0_drop_21

set_option maxHeartbeats 4000000 in
set_option maxRecDepth 100000 in
theorem kX0_flushAll (l : Launch) (dC : Nat → ClassId) (dI : Nat → Nat → Nat) {g : GE} {N : Nat} {a : AS} {u : CS} (hR : Rep g N a u) (hX : geS g = geW g) : zMI l yX0_flushAll wsX0_flushAll ({ frames := 3, cells := 0, slots := 0, locals := 85 }) dC dI 0 g u [] (fun r u1 => r = nI (faN (geF g) 0 0 a).1 ∧ Rep g N (faN (geF g) 0 0 a).2 u1) := by
  refine zMI_of (cc := cX0_flushAll) (maxL := 3) (ret := (some .int)) (by decide) rfl (Nat.le_of_ble_eq_true rfl) ?_
  intro p e s m below meth c A ls Z Y hl
  have hin : ∀ w ∈ wsX00, w ∈ wsX0_flushAll := fun w h => List.mem_cons_of_mem _ (List.mem_append_right _ h)
  obtain ⟨hx, hb, hml, hown, hts, hr, hlk⟩ := id Z
  have L13 := hts (.fieldLink RX0 13 "FramePool" "frameCount" "I") (by decide +kernel)
  have L36 := hts (.fieldLink RX0 36 "FramePool" "dirty" "[Z") (by decide +kernel)
  have hl : lv_has ls 3 [(0, .ref (ga0 g))] := hl
  have hg := hR.1
  have hN := hR.2.1
  obtain ⟨b1, b2, b3, b4, b5, b6, b7⟩ := gokB hg
  obtain ⟨r3, r4, r5, r6, r7, r8, r9, r10, r11⟩ := id hR.2.2.1
  obtain ⟨i1, i2, i3, i4, i5⟩ := id hR.2.2.2
  have b8 : geF g ≤ 32 := hg.2.1
  have loop : ∀ (R0 : Nat × AS) (n k k1 : Nat) (a : AS) (u : CS), k + n = geF g → Rep g N a u → faN n k k1 a = R0 → ∀ (H : Heap) (locs : List Loc), zW dC dI 0 g A s.heap s (u) H locs → ∀ ls : Array Slot, lv_has ls 3 [(0, .ref (ga0 g)), (1, .int (nI (k1))), (2, .int (nI (k)))] → W p l e ({ frames := 3, cells := 0, slots := 0, locals := 85 }) s m (Value.ref (ga0 g) :: []).toArray below meth c H locs 0 0 (zQI below dC dI 0 g A (fun r u1 => r = nI R0.1 ∧ Rep g N R0.2 u1) (Value.ref (ga0 g) :: []).toArray s) (F0 m 4 ls []) := by
    intro R0 n
    induction n with
    | zero =>
      intro k k1 a u hkn hR hF0 Hq lq Y ls hl
      refine lv_iload_n hx hb dX0_flushAll_4 rfl (lv_at hl 2 rfl) ?_
      refine lv_aload_n hx hb dX0_flushAll_5 rfl (lv_at hl 0 rfl) ?_
      refine z_get (T := TX0) (v := .int (nI (geF g))) Z hin rfl Y 0 (by decide) L13 rfl rfl dX0_flushAll_6 ?_
      refine lv_icmp_ge (tgt := 35) hx hb dX0_flushAll_9 (by decide) (fun _ => ?_) (fun c9 => absurd ((nI_leI (by omega) (by omega)).mpr (by omega)) c9)
      refine lv_iload_n hx hb dX0_flushAll_35 rfl (lv_at hl 1 rfl) ?_
      exact z_ret (v := nI (k1)) (u := u) Z Y (rfl) (by rw [← hF0]; exact ⟨rfl, hR⟩) dX0_flushAll_36
    | succ n ih =>
      intro k k1 a u hkn hR hF0 Hq lq Y ls hl
      have hkF : k < geF g := by omega
      obtain ⟨r3, r4, r5, r6, r7, r8, r9, r10, r11⟩ := id hR.2.2.1
      refine lv_iload_n hx hb dX0_flushAll_4 rfl (lv_at hl 2 rfl) ?_
      refine lv_aload_n hx hb dX0_flushAll_5 rfl (lv_at hl 0 rfl) ?_
      refine z_get (T := TX0) (v := .int (nI (geF g))) Z hin rfl Y 0 (by decide) L13 rfl rfl dX0_flushAll_6 ?_
      refine lv_icmp_ge (tgt := 35) hx hb dX0_flushAll_9 (by decide) (fun c9 => absurd c9 (fun q => absurd ((nI_leI (by omega) (by omega)).mp q) (by omega))) (fun _ => ?_)
      refine lv_aload_n hx hb dX0_flushAll_12 rfl (lv_at hl 0 rfl) ?_
      refine z_get (T := TX0) (v := .ref (ga7 g)) Z hin rfl Y 7 (by decide) L36 rfl rfl dX0_flushAll_13 ?_
      refine lv_iload_n hx hb dX0_flushAll_16 rfl (lv_at hl 2 rfl) ?_
      refine z_ld7 Z Y (k) (rfl) (by omega) (by omega) dX0_flushAll_17 ?_
      refine z_top (adt a k) (r7 k hkF) ?_
      refine lv_if_eq (tgt := 29) hx hb dX0_flushAll_18 (by decide) (fun c18 => ?_) (fun c18 => ?_)
      · refine lv_iinc (v := nI (k + 1)) (lv' := [(2, .int (nI (k + 1))), (0, .ref (ga0 g)), (1, .int (nI (k1)))]) hx hb dX0_flushAll_29 hl (k := 2) rfl (nI_add (k) 1) (by decide) rfl (fun ls hl => ?_)
        refine lv_goto (tgt := 4) hx hb dX0_flushAll_32 (by decide) ?_
        exact ih (k + 1) k1 a u (by omega) hR (by rw [← hF0, faN_0 c18]) _ _ Y ls (lv_sub hl [1, 2, 0] rfl)
      · obtain ⟨q, hq, hpq⟩ := dt_pg hR.2.2.2 hkF c18
        refine lv_aload_n hx hb dX0_flushAll_21 rfl (lv_at hl 0 rfl) ?_
        refine lv_iload_n hx hb dX0_flushAll_22 rfl (lv_at hl 2 rfl) ?_
        refine z_callV (rest := []) Z Y rfl (kX0_writeBack l dC dI hR hX hkF hq hpq) (cwV 1 hts gX0_flushAll_X0_writeBack rfl rfl rfl (by decide +kernel) ⟨Nat.le_of_ble_eq_true rfl, Nat.le_of_ble_eq_true rfl⟩) rfl hl.1 rfl (Nat.le_of_ble_eq_true rfl) dX0_flushAll_23 ⟨Nat.zero_le _, Nat.zero_le _⟩ (fun u23 Hq lq hw Y => ?_)
        refine lv_iinc (v := nI (k1 + 1)) (lv' := [(1, .int (nI (k1 + 1))), (0, .ref (ga0 g)), (2, .int (nI (k)))]) hx hb dX0_flushAll_26 hl (k := 1) rfl (nI_add (k1) 1) (by decide) rfl (fun ls hl => ?_)
        refine lv_iinc (v := nI (k + 1)) (lv' := [(2, .int (nI (k + 1))), (1, .int (nI (k1 + 1))), (0, .ref (ga0 g))]) hx hb dX0_flushAll_29 hl (k := 2) rfl (nI_add (k) 1) (by decide) rfl (fun ls hl => ?_)
        refine lv_goto (tgt := 4) hx hb dX0_flushAll_32 (by decide) ?_
        exact ih (k + 1) (k1 + 1) _ _ (by omega) hw (by rw [← hF0, faN_1 (show q < 2 ^ 31 by omega) c18 hpq]) _ _ Y ls (lv_sub hl [2, 1, 0] rfl)
  refine lv_iconst (v := nI (0)) hx hb dX0_flushAll_0 (by decide) ?_
  refine lv_istore_n (lv' := [(1, .int (nI (0))), (0, .ref (ga0 g))]) hx hb dX0_flushAll_1 rfl hl (by decide) rfl (fun ls hl => ?_)
  refine lv_iconst (v := nI (0)) hx hb dX0_flushAll_2 (by decide) ?_
  refine lv_istore_n (lv' := [(2, .int (nI (0))), (1, .int (nI (0))), (0, .ref (ga0 g))]) hx hb dX0_flushAll_3 rfl hl (by decide) rfl (fun ls hl => ?_)
  exact loop _ (geF g) 0 0 a u (by omega) hR rfl _ _ Y ls (lv_sub hl [2, 1, 0] rfl)

set_option maxHeartbeats 4000000 in
set_option maxRecDepth 100000 in
theorem kX0_copy (l : Launch) (dC : Nat → ClassId) (dI : Nat → Nat → Nat) {g : GE} {N : Nat} {a : AS} {u : CS} (hR : Rep g N a u) (hX : geS g = geW g) (x y : Int32) : zMI l yX0_copy wsX0_copy ({ frames := 2, cells := 0, slots := 0, locals := 64 }) dC dI 0 g u [.int (x), .int (y)] (fun r u1 => r = (spCopy g a x y).1 ∧ Rep g N (spCopy g a x y).2 u1) := by
  refine zMI_of (cc := cX0_copy) (maxL := 5) (ret := (some .int)) (by decide) rfl (Nat.le_of_ble_eq_true rfl) ?_
  intro p e s m below meth c A ls Z Y hl
  have hin : ∀ w ∈ wsX00, w ∈ wsX0_copy := fun w h => List.mem_cons_of_mem _ (List.mem_append_right _ h)
  obtain ⟨hx, hb, hml, hown, hts, hr, hlk⟩ := id Z
  have L23 := hts (.fieldLink RX0 23 "FramePool" "diskWords" "[I") (by decide +kernel)
  have L27 := hts (.fieldLink RX0 27 "FramePool" "frameWords" "[I") (by decide +kernel)
  have L36 := hts (.fieldLink RX0 36 "FramePool" "dirty" "[Z") (by decide +kernel)
  have hl : lv_has ls 5 [(0, .ref (ga0 g)), (1, .int (x)), (2, .int (y))] := hl
  have hg := hR.1
  have hN := hR.2.1
  obtain ⟨b1, b2, b3, b4, b5, b6, b7⟩ := gokB hg
  obtain ⟨r3, r4, r5, r6, r7, r8, r9, r10, r11⟩ := id hR.2.2.1
  obtain ⟨i1, i2, i3, i4, i5⟩ := id hR.2.2.2
  refine lv_aload_n hx hb dX0_copy_0 rfl (lv_at hl 0 rfl) ?_
  refine lv_iload_n hx hb dX0_copy_1 rfl (lv_at hl 1 rfl) ?_
  refine z_callI (rest := []) Z Y rfl (kX0_isPage l dC dI hg u x) (cwV 1 hts gX0_copy_X0_isPage rfl rfl rfl (by decide +kernel) ⟨Nat.le_of_ble_eq_true rfl, Nat.le_of_ble_eq_true rfl⟩) rfl hl.1 rfl (Nat.le_of_ble_eq_true rfl) dX0_copy_2 ⟨Nat.zero_le _, Nat.zero_le _⟩ (fun r2 u2 Hq lq hw Y => ?_)
  obtain ⟨rfl, hw⟩ := hw
  rcases hw with ⟨rfl, hw2⟩ | ⟨rfl, hw2⟩
  · refine lv_if_eq (tgt := 16) hx hb dX0_copy_5 (by decide) (fun c5 => absurd c5 (by decide)) (fun _ => ?_)
    refine lv_aload_n hx hb dX0_copy_8 rfl (lv_at hl 0 rfl) ?_
    refine lv_iload_n hx hb dX0_copy_9 rfl (lv_at hl 2 rfl) ?_
    refine z_callI (rest := []) Z Y rfl (kX0_isPage l dC dI hg u y) (cwV 1 hts gX0_copy_X0_isPage rfl rfl rfl (by decide +kernel) ⟨Nat.le_of_ble_eq_true rfl, Nat.le_of_ble_eq_true rfl⟩) rfl hl.1 rfl (Nat.le_of_ble_eq_true rfl) dX0_copy_10 ⟨Nat.zero_le _, Nat.zero_le _⟩ (fun r10 u10 Hq lq hw Y => ?_)
    obtain ⟨rfl, hw⟩ := hw
    rcases hw with ⟨rfl, hw10⟩ | ⟨rfl, hw10⟩
    · obtain ⟨q, hq, rfl⟩ := vp_in_of hw10 b2
      refine lv_if_ne (tgt := 19) hx hb dX0_copy_13 (by decide) (fun _ => ?_) (fun c13 => absurd c13 (by decide))
      refine lv_aload_n hx hb dX0_copy_19 rfl (lv_at hl 0 rfl) ?_
      refine lv_iload_n hx hb dX0_copy_20 rfl (lv_at hl 1 rfl) ?_
      refine z_callI (rest := []) Z Y rfl (kX0_frameOf l dC dI hR x) (cwV 1 hts gX0_copy_X0_frameOf rfl rfl rfl (by decide +kernel) ⟨Nat.le_of_ble_eq_true rfl, Nat.le_of_ble_eq_true rfl⟩) rfl hl.1 rfl (Nat.le_of_ble_eq_true rfl) dX0_copy_21 ⟨Nat.zero_le _, Nat.zero_le _⟩ (fun r21 u21 Hq lq hw Y => ?_)
      obtain ⟨rfl, hw⟩ := hw
      rcases hw with ⟨f, q21, hf21, hq21, hx21, rfl, hp21, hfo21⟩ | ⟨rfl, hfo21⟩
      · refine lv_istore_n (lv' := [(3, .int (nI (f))), (0, .ref (ga0 g)), (1, .int (x)), (2, .int (nI (q)))]) hx hb dX0_copy_24 rfl hl (by decide) rfl (fun ls hl => ?_)
        refine lv_aload_n hx hb dX0_copy_25 rfl (lv_at hl 1 rfl) ?_
        refine lv_iload_n hx hb dX0_copy_26 rfl (lv_at hl 0 rfl) ?_
        refine z_callI (rest := []) Z Y rfl (kX0_isPinnedFrame l dC dI hR (nI f)) (cwV 1 hts gX0_copy_X0_isPinnedFrame rfl rfl rfl (by decide +kernel) ⟨Nat.le_of_ble_eq_true rfl, Nat.le_of_ble_eq_true rfl⟩) rfl hl.1 rfl (Nat.le_of_ble_eq_true rfl) dX0_copy_27 ⟨Nat.zero_le _, Nat.zero_le _⟩ (fun r27 u27 Hq lq hw Y => ?_)
        obtain ⟨rfl, hw⟩ := hw
        rcases hw with ⟨rfl, hw27⟩ | ⟨rfl, hw27⟩
        · have h0 : 0 < apn a f := by have := hw27.2; rw [nI_clamp (show f < 2 ^ 31 by omega)] at this; exact this
          refine lv_if_ne (tgt := 36) hx hb dX0_copy_30 (by decide) (fun _ => ?_) (fun c30 => absurd c30 (by decide))
          refine lv_aload_n hx hb dX0_copy_36 rfl (lv_at hl 1 rfl) ?_
          refine lv_iload_n hx hb dX0_copy_37 rfl (lv_at hl 3 rfl) ?_
          refine z_callI (rest := []) Z Y rfl (kX0_frameOf l dC dI hR (nI q)) (cwV 1 hts gX0_copy_X0_frameOf rfl rfl rfl (by decide +kernel) ⟨Nat.le_of_ble_eq_true rfl, Nat.le_of_ble_eq_true rfl⟩) rfl hl.1 rfl (Nat.le_of_ble_eq_true rfl) dX0_copy_38 ⟨Nat.zero_le _, Nat.zero_le _⟩ (fun r38 u38 Hq lq hw Y => ?_)
          obtain ⟨rfl, hw⟩ := hw
          rcases hw with ⟨k, q38, hf38, hq38, hx38, rfl, hp38, hfo38⟩ | ⟨rfl, hfo38⟩
          · refine lv_istore (lv' := [(4, .int (nI (k))), (3, .int (nI (f))), (0, .ref (ga0 g)), (1, .int (x)), (2, .int (nI (q)))]) hx hb dX0_copy_41 hl (by decide) rfl (fun ls hl => ?_)
            refine lv_iload hx hb dX0_copy_43 (lv_at hl 0 rfl) ?_
            refine lv_iconst (v := (-1)) hx hb dX0_copy_45 (by decide) ?_
            refine lv_icmp_ne (tgt := 66) hx hb dX0_copy_46 (by decide) (fun _ => ?_) (fun c46 => absurd c46 (nI_ne_m1 (show k < 2 ^ 31 by omega)))
            refine lv_aload_n hx hb dX0_copy_66 rfl (lv_at hl 2 rfl) ?_
            refine lv_aload_n hx hb dX0_copy_67 rfl (lv_at hl 2 rfl) ?_
            refine z_get (T := TX0) (v := .ref (ga4 g)) Z hin rfl Y 4 (by decide) L27 rfl rfl dX0_copy_68 ?_
            refine lv_iload hx hb dX0_copy_71 (lv_at hl 0 rfl) ?_
            refine lv_aload_n hx hb dX0_copy_73 rfl (lv_at hl 2 rfl) ?_
            refine z_get (T := TX0) (v := .ref (ga4 g)) Z hin rfl Y 4 (by decide) L27 rfl rfl dX0_copy_74 ?_
            refine lv_iload_n hx hb dX0_copy_77 rfl (lv_at hl 1 rfl) ?_
            refine z_callV (rest := []) Z Y rfl (kX0_cw44 l dC dI hg hX u hf38 hf21) (cwV 4 hts gX0_copy_X0_copyWords rfl rfl rfl (by decide +kernel) ⟨Nat.le_of_ble_eq_true rfl, Nat.le_of_ble_eq_true rfl⟩) rfl hl.1 rfl (Nat.le_of_ble_eq_true rfl) dX0_copy_78 ⟨Nat.zero_le _, Nat.zero_le _⟩ (fun u78 Hq lq hw Y => ?_)
            subst hw
            refine lv_aload_n hx hb dX0_copy_81 rfl (lv_at hl 2 rfl) ?_
            refine z_get (T := TX0) (v := .ref (ga7 g)) Z hin rfl Y 7 (by decide) L36 rfl rfl dX0_copy_82 ?_
            refine lv_iload_n hx hb dX0_copy_85 rfl (lv_at hl 1 rfl) ?_
            refine lv_iconst (v := nI (1)) hx hb dX0_copy_86 (by decide) ?_
            refine z_st7 (x := nI (1)) Z Y (f) (rfl) (by omega) (by omega) (by decide) dX0_copy_87 (fun Hq lq Y => ?_)
            refine lv_iconst (v := nI (0)) hx hb dX0_copy_88 (by decide) ?_
            exact z_ret (v := nI (0)) (u := ps7 (ps4 (u) (va_cpy (cs4 u) (cs4 u) (k * geS g) (f * geS g) (geW g))) (upd (cs7 (ps4 (u) (va_cpy (cs4 u) (cs4 u) (k * geS g) (f * geS g) (geW g)))) (f) (nI (1)))) Z Y (rfl) (by rw [spCopy_m ⟨hw2, hw10⟩ hfo21 h0 hfo38]; exact ⟨rfl, hg, hN, Rp_rowM f hg hf38 hR.2.2.1, Iv_row _ (pn_pg hR.2.2.2 hf21 h0) hR.2.2.2⟩) dX0_copy_89
          · refine lv_istore (lv' := [(4, .int ((-1))), (3, .int (nI (f))), (0, .ref (ga0 g)), (1, .int (x)), (2, .int (nI (q)))]) hx hb dX0_copy_41 hl (by decide) rfl (fun ls hl => ?_)
            refine lv_iload hx hb dX0_copy_43 (lv_at hl 0 rfl) ?_
            refine lv_iconst (v := (-1)) hx hb dX0_copy_45 (by decide) ?_
            refine lv_icmp_ne (tgt := 66) hx hb dX0_copy_46 (by decide) (fun c46 => absurd (rfl) c46) (fun _ => ?_)
            refine lv_aload_n hx hb dX0_copy_49 rfl (lv_at hl 2 rfl) ?_
            refine lv_aload_n hx hb dX0_copy_50 rfl (lv_at hl 2 rfl) ?_
            refine z_get (T := TX0) (v := .ref (ga3 g)) Z hin rfl Y 3 (by decide) L23 rfl rfl dX0_copy_51 ?_
            refine lv_iload_n hx hb dX0_copy_54 rfl (lv_at hl 4 rfl) ?_
            refine lv_aload_n hx hb dX0_copy_55 rfl (lv_at hl 2 rfl) ?_
            refine z_get (T := TX0) (v := .ref (ga4 g)) Z hin rfl Y 4 (by decide) L27 rfl rfl dX0_copy_56 ?_
            refine lv_iload_n hx hb dX0_copy_59 rfl (lv_at hl 1 rfl) ?_
            refine z_callV (rest := []) Z Y rfl (kX0_cw34 l dC dI hg hX u hq hf21) (cwV 4 hts gX0_copy_X0_copyWords rfl rfl rfl (by decide +kernel) ⟨Nat.le_of_ble_eq_true rfl, Nat.le_of_ble_eq_true rfl⟩) rfl hl.1 rfl (Nat.le_of_ble_eq_true rfl) dX0_copy_60 ⟨Nat.zero_le _, Nat.zero_le _⟩ (fun u60 Hq lq hw Y => ?_)
            subst hw
            refine lv_goto (tgt := 81) hx hb dX0_copy_63 (by decide) ?_
            refine lv_aload_n hx hb dX0_copy_81 rfl (lv_at hl 2 rfl) ?_
            refine z_get (T := TX0) (v := .ref (ga7 g)) Z hin rfl Y 7 (by decide) L36 rfl rfl dX0_copy_82 ?_
            refine lv_iload_n hx hb dX0_copy_85 rfl (lv_at hl 1 rfl) ?_
            refine lv_iconst (v := nI (1)) hx hb dX0_copy_86 (by decide) ?_
            refine z_st7 (x := nI (1)) Z Y (f) (rfl) (by omega) (by omega) (by decide) dX0_copy_87 (fun Hq lq Y => ?_)
            refine lv_iconst (v := nI (0)) hx hb dX0_copy_88 (by decide) ?_
            exact z_ret (v := nI (0)) (u := ps7 (ps4 (u) (va_cpy (cs3 u) (cs4 u) (q * geS g) (f * geS g) (geW g))) (upd (cs7 (ps4 (u) (va_cpy (cs3 u) (cs4 u) (q * geS g) (f * geS g) (geW g)))) (f) (nI (1)))) Z Y (rfl) (by rw [spCopy_d (show q < 2 ^ 31 by omega) ⟨hw2, hw10⟩ hfo21 h0 hfo38]; exact ⟨rfl, hg, hN, Rp_rowD f hg hq hR.2.2.1, Iv_row _ (pn_pg hR.2.2.2 hf21 h0) hR.2.2.2⟩) dX0_copy_89
        · refine lv_if_ne (tgt := 36) hx hb dX0_copy_30 (by decide) (fun c30 => absurd (by decide) c30) (fun _ => ?_)
          refine lv_bipush (v := (-3)) hx hb dX0_copy_33 (by decide) ?_
          exact z_ret (v := (-3)) (u := u) Z Y (rfl) (by rw [spCopy_up ⟨hw2, hw10⟩ hfo21 (fun z => hw27 ⟨in_nI hf21 b1, by rw [nI_clamp (show f < 2 ^ 31 by omega)]; exact z⟩)]; exact ⟨rfl, hR⟩) dX0_copy_35
      · refine lv_istore_n (lv' := [(3, .int ((-1))), (0, .ref (ga0 g)), (1, .int (x)), (2, .int (nI (q)))]) hx hb dX0_copy_24 rfl hl (by decide) rfl (fun ls hl => ?_)
        refine lv_aload_n hx hb dX0_copy_25 rfl (lv_at hl 1 rfl) ?_
        refine lv_iload_n hx hb dX0_copy_26 rfl (lv_at hl 0 rfl) ?_
        refine z_callI (rest := []) Z Y rfl (kX0_isPinnedFrame l dC dI hR (-1)) (cwV 1 hts gX0_copy_X0_isPinnedFrame rfl rfl rfl (by decide +kernel) ⟨Nat.le_of_ble_eq_true rfl, Nat.le_of_ble_eq_true rfl⟩) rfl hl.1 rfl (Nat.le_of_ble_eq_true rfl) dX0_copy_27 ⟨Nat.zero_le _, Nat.zero_le _⟩ (fun r27 u27 Hq lq hw Y => ?_)
        obtain ⟨rfl, hw⟩ := hw
        rcases hw with ⟨rfl, hw27⟩ | ⟨rfl, hw27⟩
        · exact absurd hw27.1 (not_in_neg (by decide))
        · refine lv_if_ne (tgt := 36) hx hb dX0_copy_30 (by decide) (fun c30 => absurd (by decide) c30) (fun _ => ?_)
          refine lv_bipush (v := (-3)) hx hb dX0_copy_33 (by decide) ?_
          exact z_ret (v := (-3)) (u := u) Z Y (rfl) (by rw [spCopy_no ⟨hw2, hw10⟩ hfo21]; exact ⟨rfl, hR⟩) dX0_copy_35
    · refine lv_if_ne (tgt := 19) hx hb dX0_copy_13 (by decide) (fun c13 => absurd (by decide) c13) (fun _ => ?_)
      refine lv_bipush (v := (-2)) hx hb dX0_copy_16 (by decide) ?_
      exact z_ret (v := (-2)) (u := u) Z Y (rfl) (by rw [spCopy_bad (fun z => hw10 z.2)]; exact ⟨rfl, hR⟩) dX0_copy_18
  · refine lv_if_eq (tgt := 16) hx hb dX0_copy_5 (by decide) (fun _ => ?_) (fun c5 => absurd (by decide) c5)
    refine lv_bipush (v := (-2)) hx hb dX0_copy_16 (by decide) ?_
    exact z_ret (v := (-2)) (u := u) Z Y (rfl) (by rw [spCopy_bad (fun z => hw2 z.1)]; exact ⟨rfl, hR⟩) dX0_copy_18

theorem z_len3 {p : Program} {l : Launch} {e : Env} {R : Room} {s : State} {m : MethodId} {args : Array Value} {below : List Frame} {meth : Method} {c : Code} {H : Heap} {locs : List Loc} {cells slots : Nat} {Q : State → Prop} {cc : ByteArray} {nL : Nat} {ret : Option FieldType} {Ts : List Cond} {own : String} {pc : Nat} {ls : Array Slot} {rest : List Value} {dC : Nat → ClassId} {dI : Nat → Nat → Nat} {ci : Nat} {g : GE} {A : Nat → Prop} {H0 : Heap} {u : CS} (Z : zC p s m args meth c cc nL ret Ts own) (Y : zW dC dI ci g A H0 s u H locs) (hdg : decode cc pc = .ok (.arraylength, 1))
    (kk : W p l e R s m args below meth c H locs cells slots Q (F0 m (pc + 1) ls (.int (nI (gn3 g)) :: rest))) : W p l e R s m args below meth c H locs cells slots Q (F0 m pc ls (.ref (ga3 g) :: rest)) :=
  va_alen Z.1 Z.2.1 Y.1 Y.2.1 1 0 (x := (gn3 g, .inl (cs3 u))) rfl rfl rfl hdg kk

set_option maxHeartbeats 4000000 in
set_option maxRecDepth 100000 in
theorem kX0_init_ (l : Launch) (dC : Nat → ClassId) (dI : Nat → Nat → Nat) {g : GE} (hg : gok g) (u : CS) : zMV l yX0_init_ wsX0_init_ ({ frames := 1, cells := 0, slots := 0, locals := 21 }) dC dI 0 g u [] (fun u1 => iniP g (geF g) u u1) := by
  refine zMV_of (cc := cX0_init_) (maxL := 2) (ret := none) (by decide) rfl (Nat.le_of_ble_eq_true rfl) ?_
  intro p e s m below meth c A ls Z Y hl
  have hin : ∀ w ∈ wsX00, w ∈ wsX0_init_ := fun w h => List.mem_cons_of_mem _ (List.mem_append_right _ h)
  obtain ⟨hx, hb, hml, hown, hts, hr, hlk⟩ := id Z
  have L13 := hts (.fieldLink RX0 13 "FramePool" "frameCount" "I") (by decide +kernel)
  have L23 := hts (.fieldLink RX0 23 "FramePool" "diskWords" "[I") (by decide +kernel)
  have L50 := hts (.fieldLink RX0 50 "FramePool" "handAt" "I") (by decide +kernel)
  have L53 := hts (.fieldLink RX0 53 "FramePool" "reads" "I") (by decide +kernel)
  have L56 := hts (.fieldLink RX0 56 "FramePool" "writes" "I") (by decide +kernel)
  have hl : lv_has ls 2 [(0, .ref (ga0 g))] := hl
  obtain ⟨b1, b2, b3, b4, b5, b6, b7⟩ := gokB hg
  have loop2 : ∀ (n k : Nat) (u2 : CS), k + n = gn3 g → cs4 u2 = cs4 u → (∀ j, j < k → cs3 u2 j = nI 0) → (∀ f, f < geF g → cs5 u2 f = -1 ∧ cs6 u2 f = nI 0 ∧ cs7 u2 f = nI 0 ∧ cs8 u2 f = nI 0) → ∀ (H : Heap) (locs : List Loc), zW dC dI 0 g A s.heap s (u2) H locs → ∀ ls : Array Slot, lv_has ls 2 [(0, .ref (ga0 g)), (1, .int (nI (k)))] → W p l e ({ frames := 1, cells := 0, slots := 0, locals := 21 }) s m (Value.ref (ga0 g) :: []).toArray below meth c H locs 0 0 (zQV below dC dI 0 g A (fun u1 => iniP g (geF g) u u1) (Value.ref (ga0 g) :: []).toArray s) (F0 m 23 ls []) := by
    intro n
    induction n with
    | zero =>
      intro k u2 hkn h4 h3 h5 Hq lq Y ls hl
      refine lv_iload_n hx hb dX0_init__23 rfl (lv_at hl 1 rfl) ?_
      refine lv_aload_n hx hb dX0_init__24 rfl (lv_at hl 0 rfl) ?_
      refine z_get (T := TX0) (v := .ref (ga3 g)) Z hin rfl Y 3 (by decide) L23 rfl rfl dX0_init__25 ?_
      refine z_len3 Z Y dX0_init__28 ?_
      refine lv_icmp_ge (tgt := 45) hx hb dX0_init__29 (by decide) (fun _ => ?_) (fun c29 => absurd ((nI_leI (by omega) (by omega)).mpr (by omega)) c29)
      refine lv_aload_n hx hb dX0_init__45 rfl (lv_at hl 0 rfl) ?_
      refine lv_iconst (v := nI (0)) hx hb dX0_init__46 (by decide) ?_
      refine z_puth (T := TX0) (v := nI (0)) Z hin tyX0_ok nmX0 rfl Y L50 rfl rfl rfl dX0_init__47 (fun Hq lq Y => ?_)
      refine lv_aload_n hx hb dX0_init__50 rfl (lv_at hl 0 rfl) ?_
      refine lv_iconst (v := nI (0)) hx hb dX0_init__51 (by decide) ?_
      refine z_putr (T := TX0) (v := nI (0)) Z hin tyX0_ok nmX0 rfl Y L53 rfl rfl rfl dX0_init__52 (fun Hq lq Y => ?_)
      refine lv_aload_n hx hb dX0_init__55 rfl (lv_at hl 0 rfl) ?_
      refine lv_iconst (v := nI (0)) hx hb dX0_init__56 (by decide) ?_
      refine z_putw (T := TX0) (v := nI (0)) Z hin tyX0_ok nmX0 rfl Y L56 rfl rfl rfl dX0_init__57 (fun Hq lq Y => ?_)
      exact z_vret (u := psw (psr (psh (u2) (nI (0))) (nI (0))) (nI (0))) Z Y (⟨h4, fun j hj => h3 j (by omega), h5, rfl, rfl, rfl⟩) dX0_init__60
    | succ n ih =>
      intro k u2 hkn h4 h3 h5 Hq lq Y ls hl
      refine lv_iload_n hx hb dX0_init__23 rfl (lv_at hl 1 rfl) ?_
      refine lv_aload_n hx hb dX0_init__24 rfl (lv_at hl 0 rfl) ?_
      refine z_get (T := TX0) (v := .ref (ga3 g)) Z hin rfl Y 3 (by decide) L23 rfl rfl dX0_init__25 ?_
      refine z_len3 Z Y dX0_init__28 ?_
      refine lv_icmp_ge (tgt := 45) hx hb dX0_init__29 (by decide) (fun c29 => absurd c29 (fun q => absurd ((nI_leI (by omega) (by omega)).mp q) (by omega))) (fun _ => ?_)
      refine lv_aload_n hx hb dX0_init__32 rfl (lv_at hl 0 rfl) ?_
      refine z_get (T := TX0) (v := .ref (ga3 g)) Z hin rfl Y 3 (by decide) L23 rfl rfl dX0_init__33 ?_
      refine lv_iload_n hx hb dX0_init__36 rfl (lv_at hl 1 rfl) ?_
      refine lv_iconst (v := nI (0)) hx hb dX0_init__37 (by decide) ?_
      refine z_st3 (x := nI (0)) Z Y (k) (rfl) (by omega) (by omega) dX0_init__38 (fun Hq lq Y => ?_)
      refine lv_iinc (v := nI (k + 1)) (lv' := [(1, .int (nI (k + 1))), (0, .ref (ga0 g))]) hx hb dX0_init__39 hl (k := 1) rfl (nI_add (k) 1) (by decide) rfl (fun ls hl => ?_)
      refine lv_goto (tgt := 23) hx hb dX0_init__42 (by decide) ?_
      refine ih (k + 1) (ps3 u2 (upd (cs3 u2) k (nI 0))) (by omega) h4 (fun j hj => ?_) h5 _ _ Y ls (lv_sub hl [1, 0] rfl)
      show upd (cs3 u2) k (nI 0) j = nI 0
      by_cases e : j = k
      · subst e; exact pk_us
      · rw [pk_un e]; exact h3 j (by omega)
  have loop1 : ∀ (n k : Nat) (u2 : CS), k + n = geF g → cs4 u2 = cs4 u → (∀ f, f < k → cs5 u2 f = -1 ∧ cs6 u2 f = nI 0 ∧ cs7 u2 f = nI 0 ∧ cs8 u2 f = nI 0) → ∀ (H : Heap) (locs : List Loc), zW dC dI 0 g A s.heap s (u2) H locs → ∀ ls : Array Slot, lv_has ls 2 [(0, .ref (ga0 g)), (1, .int (nI (k)))] → W p l e ({ frames := 1, cells := 0, slots := 0, locals := 21 }) s m (Value.ref (ga0 g) :: []).toArray below meth c H locs 0 0 (zQV below dC dI 0 g A (fun u1 => iniP g (geF g) u u1) (Value.ref (ga0 g) :: []).toArray s) (F0 m 2 ls []) := by
    intro n
    induction n with
    | zero =>
      intro k u2 hkn h4 h5 Hq lq Y ls hl
      refine lv_iload_n hx hb dX0_init__2 rfl (lv_at hl 1 rfl) ?_
      refine lv_aload_n hx hb dX0_init__3 rfl (lv_at hl 0 rfl) ?_
      refine z_get (T := TX0) (v := .int (nI (geF g))) Z hin rfl Y 0 (by decide) L13 rfl rfl dX0_init__4 ?_
      refine lv_icmp_ge (tgt := 21) hx hb dX0_init__7 (by decide) (fun _ => ?_) (fun c7 => absurd ((nI_leI (by omega) (by omega)).mpr (by omega)) c7)
      refine lv_iconst (v := nI (0)) hx hb dX0_init__21 (by decide) ?_
      refine lv_istore_n (lv' := [(1, .int (nI (0))), (0, .ref (ga0 g))]) hx hb dX0_init__22 rfl hl (by decide) rfl (fun ls hl => ?_)
      exact loop2 (gn3 g) 0 u2 (by omega) h4 (fun j hj => absurd hj (by omega)) (fun f hf => h5 f (by omega)) _ _ Y ls (lv_sub hl [1, 0] rfl)
    | succ n ih =>
      intro k u2 hkn h4 h5 Hq lq Y ls hl
      have hkF : k < geF g := by omega
      refine lv_iload_n hx hb dX0_init__2 rfl (lv_at hl 1 rfl) ?_
      refine lv_aload_n hx hb dX0_init__3 rfl (lv_at hl 0 rfl) ?_
      refine z_get (T := TX0) (v := .int (nI (geF g))) Z hin rfl Y 0 (by decide) L13 rfl rfl dX0_init__4 ?_
      refine lv_icmp_ge (tgt := 21) hx hb dX0_init__7 (by decide) (fun c7 => absurd c7 (fun q => absurd ((nI_leI (by omega) (by omega)).mp q) (by omega))) (fun _ => ?_)
      refine lv_aload_n hx hb dX0_init__10 rfl (lv_at hl 0 rfl) ?_
      refine lv_iload_n hx hb dX0_init__11 rfl (lv_at hl 1 rfl) ?_
      refine z_callV (rest := []) Z Y rfl (kX0_makeEmpty l dC dI hg u2 hkF) (cwV 1 hts gX0_init__X0_makeEmpty rfl rfl rfl (by decide +kernel) ⟨Nat.le_of_ble_eq_true rfl, Nat.le_of_ble_eq_true rfl⟩) rfl hl.1 rfl (Nat.le_of_ble_eq_true rfl) dX0_init__12 ⟨Nat.zero_le _, Nat.zero_le _⟩ (fun u12 Hq lq hw Y => ?_)
      subst hw
      refine lv_iinc (v := nI (k + 1)) (lv' := [(1, .int (nI (k + 1))), (0, .ref (ga0 g))]) hx hb dX0_init__15 hl (k := 1) rfl (nI_add (k) 1) (by decide) rfl (fun ls hl => ?_)
      refine lv_goto (tgt := 2) hx hb dX0_init__18 (by decide) ?_
      refine ih (k + 1) (cs3 u2, cs4 u2, upd (cs5 u2) k (-1), upd (cs6 u2) k (nI 0), upd (cs7 u2) k (nI 0), upd (cs8 u2) k (nI 0), csh u2, csr u2, csw u2) (by omega) h4 (fun f hf => ?_) _ _ Y ls (lv_sub hl [1, 0] rfl)
      show upd (cs5 u2) k (-1) f = -1 ∧ upd (cs6 u2) k (nI 0) f = nI 0 ∧ upd (cs7 u2) k (nI 0) f = nI 0 ∧ upd (cs8 u2) k (nI 0) f = nI 0
      by_cases e : f = k
      · subst e; exact ⟨pk_us, pk_us, pk_us, pk_us⟩
      · rw [pk_un e, pk_un e, pk_un e, pk_un e]; exact h5 f (by omega)
  refine lv_iconst (v := nI (0)) hx hb dX0_init__0 (by decide) ?_
  refine lv_istore_n (lv' := [(1, .int (nI (0))), (0, .ref (ga0 g))]) hx hb dX0_init__1 rfl hl (by decide) rfl (fun ls hl => ?_)
  exact loop1 (geF g) 0 u (by omega) rfl (fun f hf => absurd hf (by omega)) _ _ Y ls (lv_sub hl [1, 0] rfl)
