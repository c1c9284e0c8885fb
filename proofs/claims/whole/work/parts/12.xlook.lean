/-! ===== FramePool: the methods that only look ===== -/
set_option maxHeartbeats 4000000 in
set_option maxRecDepth 100000 in
theorem kX0_isPage (l : Launch) (dC : Nat → ClassId) (dI : Nat → Nat → Nat) {g : GE} (hg : gok g) (u : CS) (x : Int32) : zMI l yX0_isPage wsX0_isPage ({ frames := 0, cells := 0, slots := 0, locals := 0 }) dC dI 0 g u [.int (x)] (fun r u1 => u = u1 ∧ bP r (vp_in x (geP g))) := by
  refine zMI_of (cc := cX0_isPage) (maxL := 2) (ret := (some .boolean)) (by decide) rfl (Nat.le_of_ble_eq_true rfl) ?_
  intro p e s m below meth c A ls Z Y hl
  have hin : ∀ w ∈ wsX00, w ∈ wsX0_isPage := fun w h => List.mem_cons_of_mem _ (List.mem_append_right _ h)
  obtain ⟨hx, hb, hml, hown, hts, hr, hlk⟩ := id Z
  have L17 := hts (.fieldLink RX0 17 "FramePool" "pageCount" "I") (by decide +kernel)
  have hl : lv_has ls 2 [(0, .ref (ga0 g)), (1, .int (x))] := hl
  have hn : geP g < 2 ^ 31 := (gokB hg).2.1
  refine lv_iload_n hx hb dX0_isPage_0 rfl (lv_at hl 1 rfl) ?_
  refine lv_if_lt (tgt := 16) hx hb dX0_isPage_1 (by decide) (fun c1 => ?_) (fun c1 => ?_)
  · refine lv_iconst (v := nI (0)) hx hb dX0_isPage_16 (by decide) ?_
    exact z_ret (v := nI (0)) (u := u) Z Y (rfl) (⟨rfl, Or.inr ⟨rfl, not_in_neg c1⟩⟩) dX0_isPage_17
  · refine lv_iload_n hx hb dX0_isPage_4 rfl (lv_at hl 1 rfl) ?_
    refine lv_aload_n hx hb dX0_isPage_5 rfl (lv_at hl 0 rfl) ?_
    refine z_get (T := TX0) (v := .int (nI (geP g))) Z hin rfl Y 1 (by decide) L17 rfl rfl dX0_isPage_6 ?_
    refine lv_icmp_ge (tgt := 16) hx hb dX0_isPage_9 (by decide) (fun c9 => ?_) (fun c9 => ?_)
    · refine lv_iconst (v := nI (0)) hx hb dX0_isPage_16 (by decide) ?_
      exact z_ret (v := nI (0)) (u := u) Z Y (rfl) (⟨rfl, Or.inr ⟨rfl, not_in_ge hn c9⟩⟩) dX0_isPage_17
    · refine lv_iconst (v := nI (1)) hx hb dX0_isPage_12 (by decide) ?_
      refine lv_goto (tgt := 17) hx hb dX0_isPage_13 (by decide) ?_
      exact z_ret (v := nI (1)) (u := u) Z Y (rfl) (⟨rfl, Or.inl ⟨rfl, (in_iff hn).mpr ⟨i_le_of c1, i_lt_of c9⟩⟩⟩) dX0_isPage_17

set_option maxHeartbeats 4000000 in
set_option maxRecDepth 100000 in
theorem kX0_isOffset (l : Launch) (dC : Nat → ClassId) (dI : Nat → Nat → Nat) {g : GE} (hg : gok g) (u : CS) (x : Int32) : zMI l yX0_isOffset wsX0_isOffset ({ frames := 0, cells := 0, slots := 0, locals := 0 }) dC dI 0 g u [.int (x)] (fun r u1 => u = u1 ∧ bP r (vp_in x (geW g))) := by
  refine zMI_of (cc := cX0_isOffset) (maxL := 2) (ret := (some .boolean)) (by decide) rfl (Nat.le_of_ble_eq_true rfl) ?_
  intro p e s m below meth c A ls Z Y hl
  have hin : ∀ w ∈ wsX00, w ∈ wsX0_isOffset := fun w h => List.mem_cons_of_mem _ (List.mem_append_right _ h)
  obtain ⟨hx, hb, hml, hown, hts, hr, hlk⟩ := id Z
  have L20 := hts (.fieldLink RX0 20 "FramePool" "wordCount" "I") (by decide +kernel)
  have hl : lv_has ls 2 [(0, .ref (ga0 g)), (1, .int (x))] := hl
  have hn : geW g < 2 ^ 31 := (gokB hg).2.2.1
  refine lv_iload_n hx hb dX0_isOffset_0 rfl (lv_at hl 1 rfl) ?_
  refine lv_if_lt (tgt := 16) hx hb dX0_isOffset_1 (by decide) (fun c1 => ?_) (fun c1 => ?_)
  · refine lv_iconst (v := nI (0)) hx hb dX0_isOffset_16 (by decide) ?_
    exact z_ret (v := nI (0)) (u := u) Z Y (rfl) (⟨rfl, Or.inr ⟨rfl, not_in_neg c1⟩⟩) dX0_isOffset_17
  · refine lv_iload_n hx hb dX0_isOffset_4 rfl (lv_at hl 1 rfl) ?_
    refine lv_aload_n hx hb dX0_isOffset_5 rfl (lv_at hl 0 rfl) ?_
    refine z_get (T := TX0) (v := .int (nI (geW g))) Z hin rfl Y 2 (by decide) L20 rfl rfl dX0_isOffset_6 ?_
    refine lv_icmp_ge (tgt := 16) hx hb dX0_isOffset_9 (by decide) (fun c9 => ?_) (fun c9 => ?_)
    · refine lv_iconst (v := nI (0)) hx hb dX0_isOffset_16 (by decide) ?_
      exact z_ret (v := nI (0)) (u := u) Z Y (rfl) (⟨rfl, Or.inr ⟨rfl, not_in_ge hn c9⟩⟩) dX0_isOffset_17
    · refine lv_iconst (v := nI (1)) hx hb dX0_isOffset_12 (by decide) ?_
      refine lv_goto (tgt := 17) hx hb dX0_isOffset_13 (by decide) ?_
      exact z_ret (v := nI (1)) (u := u) Z Y (rfl) (⟨rfl, Or.inl ⟨rfl, (in_iff hn).mpr ⟨i_le_of c1, i_lt_of c9⟩⟩⟩) dX0_isOffset_17

set_option maxHeartbeats 4000000 in
set_option maxRecDepth 100000 in
theorem kX0_isFrame (l : Launch) (dC : Nat → ClassId) (dI : Nat → Nat → Nat) {g : GE} (hg : gok g) (u : CS) (x : Int32) : zMI l yX0_isFrame wsX0_isFrame ({ frames := 0, cells := 0, slots := 0, locals := 0 }) dC dI 0 g u [.int (x)] (fun r u1 => u = u1 ∧ bP r (vp_in x (geF g))) := by
  refine zMI_of (cc := cX0_isFrame) (maxL := 2) (ret := (some .boolean)) (by decide) rfl (Nat.le_of_ble_eq_true rfl) ?_
  intro p e s m below meth c A ls Z Y hl
  have hin : ∀ w ∈ wsX00, w ∈ wsX0_isFrame := fun w h => List.mem_cons_of_mem _ (List.mem_append_right _ h)
  obtain ⟨hx, hb, hml, hown, hts, hr, hlk⟩ := id Z
  have L13 := hts (.fieldLink RX0 13 "FramePool" "frameCount" "I") (by decide +kernel)
  have hl : lv_has ls 2 [(0, .ref (ga0 g)), (1, .int (x))] := hl
  have hn : geF g < 2 ^ 31 := (gokB hg).1
  refine lv_iload_n hx hb dX0_isFrame_0 rfl (lv_at hl 1 rfl) ?_
  refine lv_if_lt (tgt := 16) hx hb dX0_isFrame_1 (by decide) (fun c1 => ?_) (fun c1 => ?_)
  · refine lv_iconst (v := nI (0)) hx hb dX0_isFrame_16 (by decide) ?_
    exact z_ret (v := nI (0)) (u := u) Z Y (rfl) (⟨rfl, Or.inr ⟨rfl, not_in_neg c1⟩⟩) dX0_isFrame_17
  · refine lv_iload_n hx hb dX0_isFrame_4 rfl (lv_at hl 1 rfl) ?_
    refine lv_aload_n hx hb dX0_isFrame_5 rfl (lv_at hl 0 rfl) ?_
    refine z_get (T := TX0) (v := .int (nI (geF g))) Z hin rfl Y 0 (by decide) L13 rfl rfl dX0_isFrame_6 ?_
    refine lv_icmp_ge (tgt := 16) hx hb dX0_isFrame_9 (by decide) (fun c9 => ?_) (fun c9 => ?_)
    · refine lv_iconst (v := nI (0)) hx hb dX0_isFrame_16 (by decide) ?_
      exact z_ret (v := nI (0)) (u := u) Z Y (rfl) (⟨rfl, Or.inr ⟨rfl, not_in_ge hn c9⟩⟩) dX0_isFrame_17
    · refine lv_iconst (v := nI (1)) hx hb dX0_isFrame_12 (by decide) ?_
      refine lv_goto (tgt := 17) hx hb dX0_isFrame_13 (by decide) ?_
      exact z_ret (v := nI (1)) (u := u) Z Y (rfl) (⟨rfl, Or.inl ⟨rfl, (in_iff hn).mpr ⟨i_le_of c1, i_lt_of c9⟩⟩⟩) dX0_isFrame_17

set_option maxHeartbeats 4000000 in
set_option maxRecDepth 100000 in
theorem kX0_isPinnedFrame (l : Launch) (dC : Nat → ClassId) (dI : Nat → Nat → Nat) {g : GE} {N : Nat} {a : AS} {u : CS} (hR : Rep g N a u) (x : Int32) : zMI l yX0_isPinnedFrame wsX0_isPinnedFrame ({ frames := 1, cells := 0, slots := 0, locals := 21 }) dC dI 0 g u [.int (x)] (fun r u1 => u = u1 ∧ bP r (vp_in x (geF g) ∧ 0 < apn a x.toNatClampNeg)) := by
  refine zMI_of (cc := cX0_isPinnedFrame) (maxL := 2) (ret := (some .boolean)) (by decide) rfl (Nat.le_of_ble_eq_true rfl) ?_
  intro p e s m below meth c A ls Z Y hl
  have hin : ∀ w ∈ wsX00, w ∈ wsX0_isPinnedFrame := fun w h => List.mem_cons_of_mem _ (List.mem_append_right _ h)
  obtain ⟨hx, hb, hml, hown, hts, hr, hlk⟩ := id Z
  have L33 := hts (.fieldLink RX0 33 "FramePool" "pins" "[I") (by decide +kernel)
  have hl : lv_has ls 2 [(0, .ref (ga0 g)), (1, .int (x))] := hl
  have hg := hR.1
  have hN := hR.2.1
  obtain ⟨b1, b2, b3, b4, b5, b6, b7⟩ := gokB hg
  obtain ⟨r3, r4, r5, r6, r7, r8, r9, r10, r11⟩ := id hR.2.2.1
  obtain ⟨i1, i2, i3, i4, i5⟩ := id hR.2.2.2
  refine lv_aload_n hx hb dX0_isPinnedFrame_0 rfl (lv_at hl 0 rfl) ?_
  refine lv_iload_n hx hb dX0_isPinnedFrame_1 rfl (lv_at hl 1 rfl) ?_
  refine z_callI (rest := []) Z Y rfl (kX0_isFrame l dC dI hg u x) (cwV 1 hts gX0_isPinnedFrame_X0_isFrame rfl rfl rfl (by decide +kernel) ⟨Nat.le_of_ble_eq_true rfl, Nat.le_of_ble_eq_true rfl⟩) rfl hl.1 rfl (Nat.le_of_ble_eq_true rfl) dX0_isPinnedFrame_2 ⟨Nat.zero_le _, Nat.zero_le _⟩ (fun r2 u2 Hq lq hw Y => ?_)
  obtain ⟨rfl, hw⟩ := hw
  rcases hw with ⟨rfl, hw2⟩ | ⟨rfl, hw2⟩
  · obtain ⟨k, hk, rfl⟩ := vp_in_of hw2 b1
    refine lv_if_eq (tgt := 21) hx hb dX0_isPinnedFrame_5 (by decide) (fun c5 => absurd c5 (by decide)) (fun _ => ?_)
    refine lv_aload_n hx hb dX0_isPinnedFrame_8 rfl (lv_at hl 0 rfl) ?_
    refine z_get (T := TX0) (v := .ref (ga6 g)) Z hin rfl Y 6 (by decide) L33 rfl rfl dX0_isPinnedFrame_9 ?_
    refine lv_iload_n hx hb dX0_isPinnedFrame_12 rfl (lv_at hl 1 rfl) ?_
    refine z_ld6 Z Y (k) (rfl) (by omega) (by omega) dX0_isPinnedFrame_13 ?_
    refine z_top (nI (apn a k)) (r6 k hk) ?_
    have hk31 : k < 2 ^ 31 := by omega
    have hb6 : apn a k < 2 ^ 31 := by have := pn31 hR hk; omega
    refine lv_if_le (tgt := 21) hx hb dX0_isPinnedFrame_14 (by decide) (fun c14 => ?_) (fun c14 => ?_)
    · refine lv_iconst (v := nI (0)) hx hb dX0_isPinnedFrame_21 (by decide) ?_
      exact z_ret (v := nI (0)) (u := u) Z Y (rfl) (⟨rfl, Or.inr ⟨rfl, fun q => by have := (nI_le0 hb6).mp c14; have := q.2; rw [nI_clamp hk31] at this; omega⟩⟩) dX0_isPinnedFrame_22
    · refine lv_iconst (v := nI (1)) hx hb dX0_isPinnedFrame_17 (by decide) ?_
      refine lv_goto (tgt := 22) hx hb dX0_isPinnedFrame_18 (by decide) ?_
      exact z_ret (v := nI (1)) (u := u) Z Y (rfl) (⟨rfl, Or.inl ⟨rfl, hw2, by rw [nI_clamp hk31]; exact Nat.pos_of_ne_zero (fun z => c14 ((nI_le0 hb6).mpr z))⟩⟩) dX0_isPinnedFrame_22
  · refine lv_if_eq (tgt := 21) hx hb dX0_isPinnedFrame_5 (by decide) (fun _ => ?_) (fun c5 => absurd (by decide) c5)
    refine lv_iconst (v := nI (0)) hx hb dX0_isPinnedFrame_21 (by decide) ?_
    exact z_ret (v := nI (0)) (u := u) Z Y (rfl) (⟨rfl, Or.inr ⟨rfl, fun q => hw2 q.1⟩⟩) dX0_isPinnedFrame_22

set_option maxHeartbeats 4000000 in
set_option maxRecDepth 100000 in
theorem kX0_frameOf (l : Launch) (dC : Nat → ClassId) (dI : Nat → Nat → Nat) {g : GE} {N : Nat} {a : AS} {u : CS} (hR : Rep g N a u) (x : Int32) : zMI l yX0_frameOf wsX0_frameOf ({ frames := 1, cells := 0, slots := 0, locals := 21 }) dC dI 0 g u [.int (x)] (fun r u1 => u = u1 ∧ foP g a x (-1) r) := by
  refine zMI_of (cc := cX0_frameOf) (maxL := 3) (ret := (some .int)) (by decide) rfl (Nat.le_of_ble_eq_true rfl) ?_
  intro p e s m below meth c A ls Z Y hl
  have hin : ∀ w ∈ wsX00, w ∈ wsX0_frameOf := fun w h => List.mem_cons_of_mem _ (List.mem_append_right _ h)
  obtain ⟨hx, hb, hml, hown, hts, hr, hlk⟩ := id Z
  have L13 := hts (.fieldLink RX0 13 "FramePool" "frameCount" "I") (by decide +kernel)
  have L30 := hts (.fieldLink RX0 30 "FramePool" "pageIn" "[I") (by decide +kernel)
  have hl : lv_has ls 3 [(0, .ref (ga0 g)), (1, .int (x))] := hl
  have hg := hR.1
  have hN := hR.2.1
  obtain ⟨b1, b2, b3, b4, b5, b6, b7⟩ := gokB hg
  obtain ⟨r3, r4, r5, r6, r7, r8, r9, r10, r11⟩ := id hR.2.2.1
  obtain ⟨i1, i2, i3, i4, i5⟩ := id hR.2.2.2
  have loop : vp_in x (geP g) → ∀ (n k : Nat), k + n = geF g → (∀ j, j < k → apg a j ≠ x) → ∀ (H : Heap) (locs : List Loc), zW dC dI 0 g A s.heap s (u) H locs → ∀ ls : Array Slot, lv_has ls 3 [(0, .ref (ga0 g)), (1, .int (x)), (2, .int (nI (k)))] → W p l e ({ frames := 1, cells := 0, slots := 0, locals := 21 }) s m (Value.ref (ga0 g) :: [.int (x)]).toArray below meth c H locs 0 0 (zQI below dC dI 0 g A (fun r u1 => u = u1 ∧ foP g a x (-1) r) (Value.ref (ga0 g) :: [.int (x)]).toArray s) (F0 m 12 ls []) := by
    intro hxP n
    induction n with
    | zero =>
      intro k hkn hno Hq lq Y ls hl
      refine lv_iload_n hx hb dX0_frameOf_12 rfl (lv_at hl 2 rfl) ?_
      refine lv_aload_n hx hb dX0_frameOf_13 rfl (lv_at hl 0 rfl) ?_
      refine z_get (T := TX0) (v := .int (nI (geF g))) Z hin rfl Y 0 (by decide) L13 rfl rfl dX0_frameOf_14 ?_
      refine lv_icmp_ge (tgt := 38) hx hb dX0_frameOf_17 (by decide) (fun _ => ?_) (fun c17 => absurd ((nI_leI b1 (by omega)).mpr (by omega)) c17)
      refine lv_iconst (v := (-1)) hx hb dX0_frameOf_38 (by decide) ?_
      exact z_ret (v := (-1)) (u := u) Z Y (rfl) (⟨rfl, Or.inr ⟨rfl, fop_none (fun _ f hf => hno f (by omega))⟩⟩) dX0_frameOf_39
    | succ n ih =>
      intro k hkn hno Hq lq Y ls hl
      have hkF : k < geF g := by omega
      refine lv_iload_n hx hb dX0_frameOf_12 rfl (lv_at hl 2 rfl) ?_
      refine lv_aload_n hx hb dX0_frameOf_13 rfl (lv_at hl 0 rfl) ?_
      refine z_get (T := TX0) (v := .int (nI (geF g))) Z hin rfl Y 0 (by decide) L13 rfl rfl dX0_frameOf_14 ?_
      refine lv_icmp_ge (tgt := 38) hx hb dX0_frameOf_17 (by decide) (fun c17 => absurd c17 (fun q => absurd ((nI_leI b1 (by omega)).mp q) (by omega))) (fun _ => ?_)
      refine lv_aload_n hx hb dX0_frameOf_20 rfl (lv_at hl 0 rfl) ?_
      refine z_get (T := TX0) (v := .ref (ga5 g)) Z hin rfl Y 5 (by decide) L30 rfl rfl dX0_frameOf_21 ?_
      refine lv_iload_n hx hb dX0_frameOf_24 rfl (lv_at hl 2 rfl) ?_
      refine z_ld5 Z Y (k) (rfl) (by omega) (by omega) dX0_frameOf_25 ?_
      refine z_top (apg a k) (r5 k hkF) ?_
      refine lv_iload_n hx hb dX0_frameOf_26 rfl (lv_at hl 1 rfl) ?_
      refine lv_icmp_ne (tgt := 32) hx hb dX0_frameOf_27 (by decide) (fun c27 => ?_) (fun c27 => ?_)
      · refine lv_iinc (v := nI (k + 1)) (lv' := [(2, .int (nI (k + 1))), (0, .ref (ga0 g)), (1, .int (x))]) hx hb dX0_frameOf_32 hl (k := 2) rfl (nI_add (k) 1) (by decide) rfl (fun ls hl => ?_)
        refine lv_goto (tgt := 12) hx hb dX0_frameOf_35 (by decide) ?_
        exact ih (k + 1) (by omega) (fun j hj => by rcases Nat.lt_succ_iff_lt_or_eq.mp hj with q | rfl; exact hno j q; exact c27) _ _ Y ls (lv_sub hl [1, 2, 0] rfl)
      · refine lv_iload_n hx hb dX0_frameOf_30 rfl (lv_at hl 2 rfl) ?_
        obtain ⟨q, hq, rfl⟩ := vp_in_of hxP b2
        exact z_ret (v := nI (k)) (u := u) Z Y (rfl) (⟨rfl, Or.inl ⟨k, q, hkF, hq, rfl, rfl, c27, fop_some hg hR.2.2.2 hkF hq c27⟩⟩) dX0_frameOf_31
  refine lv_aload_n hx hb dX0_frameOf_0 rfl (lv_at hl 0 rfl) ?_
  refine lv_iload_n hx hb dX0_frameOf_1 rfl (lv_at hl 1 rfl) ?_
  refine z_callI (rest := []) Z Y rfl (kX0_isPage l dC dI hg u x) (cwV 1 hts gX0_frameOf_X0_isPage rfl rfl rfl (by decide +kernel) ⟨Nat.le_of_ble_eq_true rfl, Nat.le_of_ble_eq_true rfl⟩) rfl hl.1 rfl (Nat.le_of_ble_eq_true rfl) dX0_frameOf_2 ⟨Nat.zero_le _, Nat.zero_le _⟩ (fun r2 u2 Hq lq hw Y => ?_)
  obtain ⟨rfl, hw⟩ := hw
  rcases hw with ⟨rfl, hw2⟩ | ⟨rfl, hw2⟩
  · refine lv_if_ne (tgt := 10) hx hb dX0_frameOf_5 (by decide) (fun _ => ?_) (fun c5 => absurd c5 (by decide))
    refine lv_iconst (v := nI (0)) hx hb dX0_frameOf_10 (by decide) ?_
    refine lv_istore_n (lv' := [(2, .int (nI (0))), (0, .ref (ga0 g)), (1, .int (x))]) hx hb dX0_frameOf_11 rfl hl (by decide) rfl (fun ls hl => ?_)
    exact loop hw2 (geF g) 0 (by omega) (fun j hj => absurd hj (by omega)) _ _ Y ls (lv_sub hl [1, 2, 0] rfl)
  · refine lv_if_ne (tgt := 10) hx hb dX0_frameOf_5 (by decide) (fun c5 => absurd (by decide) c5) (fun _ => ?_)
    refine lv_iconst (v := (-1)) hx hb dX0_frameOf_8 (by decide) ?_
    exact z_ret (v := (-1)) (u := u) Z Y (rfl) (⟨rfl, Or.inr ⟨rfl, fop_out hw2⟩⟩) dX0_frameOf_9

set_option maxHeartbeats 4000000 in
set_option maxRecDepth 100000 in
theorem kX0_pinned (l : Launch) (dC : Nat → ClassId) (dI : Nat → Nat → Nat) {g : GE} {N : Nat} {a : AS} {u : CS} (hR : Rep g N a u) : zMI l yX0_pinned wsX0_pinned ({ frames := 0, cells := 0, slots := 0, locals := 0 }) dC dI 0 g u [] (fun r u1 => u = u1 ∧ r = nI (cnt (apn a) (geF g))) := by
  refine zMI_of (cc := cX0_pinned) (maxL := 3) (ret := (some .int)) (by decide) rfl (Nat.le_of_ble_eq_true rfl) ?_
  intro p e s m below meth c A ls Z Y hl
  have hin : ∀ w ∈ wsX00, w ∈ wsX0_pinned := fun w h => List.mem_cons_of_mem _ (List.mem_append_right _ h)
  obtain ⟨hx, hb, hml, hown, hts, hr, hlk⟩ := id Z
  have L13 := hts (.fieldLink RX0 13 "FramePool" "frameCount" "I") (by decide +kernel)
  have L33 := hts (.fieldLink RX0 33 "FramePool" "pins" "[I") (by decide +kernel)
  have hl : lv_has ls 3 [(0, .ref (ga0 g))] := hl
  have hg := hR.1
  have hN := hR.2.1
  obtain ⟨b1, b2, b3, b4, b5, b6, b7⟩ := gokB hg
  obtain ⟨r3, r4, r5, r6, r7, r8, r9, r10, r11⟩ := id hR.2.2.1
  obtain ⟨i1, i2, i3, i4, i5⟩ := id hR.2.2.2
  have loop : ∀ (n k : Nat), k + n = geF g → ∀ (H : Heap) (locs : List Loc), zW dC dI 0 g A s.heap s (u) H locs → ∀ ls : Array Slot, lv_has ls 3 [(0, .ref (ga0 g)), (1, .int (nI (cnt (apn a) k))), (2, .int (nI (k)))] → W p l e ({ frames := 0, cells := 0, slots := 0, locals := 0 }) s m (Value.ref (ga0 g) :: []).toArray below meth c H locs 0 0 (zQI below dC dI 0 g A (fun r u1 => u = u1 ∧ r = nI (cnt (apn a) (geF g))) (Value.ref (ga0 g) :: []).toArray s) (F0 m 4 ls []) := by
    intro n
    induction n with
    | zero =>
      intro k hkn Hq lq Y ls hl
      obtain rfl : k = geF g := hkn
      refine lv_iload_n hx hb dX0_pinned_4 rfl (lv_at hl 2 rfl) ?_
      refine lv_aload_n hx hb dX0_pinned_5 rfl (lv_at hl 0 rfl) ?_
      refine z_get (T := TX0) (v := .int (nI (geF g))) Z hin rfl Y 0 (by decide) L13 rfl rfl dX0_pinned_6 ?_
      refine lv_icmp_ge (tgt := 30) hx hb dX0_pinned_9 (by decide) (fun _ => ?_) (fun c9 => absurd ((nI_leI b1 (by omega)).mpr (by omega)) c9)
      refine lv_iload_n hx hb dX0_pinned_30 rfl (lv_at hl 1 rfl) ?_
      exact z_ret (v := nI (cnt (apn a) (geF g))) (u := u) Z Y (rfl) (⟨rfl, rfl⟩) dX0_pinned_31
    | succ n ih =>
      intro k hkn Hq lq Y ls hl
      have hkF : k < geF g := by omega
      have hb6 : apn a k < 2 ^ 31 := by have := pn31 hR hkF; omega
      refine lv_iload_n hx hb dX0_pinned_4 rfl (lv_at hl 2 rfl) ?_
      refine lv_aload_n hx hb dX0_pinned_5 rfl (lv_at hl 0 rfl) ?_
      refine z_get (T := TX0) (v := .int (nI (geF g))) Z hin rfl Y 0 (by decide) L13 rfl rfl dX0_pinned_6 ?_
      refine lv_icmp_ge (tgt := 30) hx hb dX0_pinned_9 (by decide) (fun c9 => absurd c9 (fun q => absurd ((nI_leI b1 (by omega)).mp q) (by omega))) (fun _ => ?_)
      refine lv_aload_n hx hb dX0_pinned_12 rfl (lv_at hl 0 rfl) ?_
      refine z_get (T := TX0) (v := .ref (ga6 g)) Z hin rfl Y 6 (by decide) L33 rfl rfl dX0_pinned_13 ?_
      refine lv_iload_n hx hb dX0_pinned_16 rfl (lv_at hl 2 rfl) ?_
      refine z_ld6 Z Y (k) (rfl) (by omega) (by omega) dX0_pinned_17 ?_
      refine z_top (nI (apn a k)) (r6 k hkF) ?_
      refine lv_if_le (tgt := 24) hx hb dX0_pinned_18 (by decide) (fun c18 => ?_) (fun c18 => ?_)
      · refine lv_iinc (v := nI (k + 1)) (lv' := [(2, .int (nI (k + 1))), (0, .ref (ga0 g)), (1, .int (nI (cnt (apn a) k)))]) hx hb dX0_pinned_24 hl (k := 2) rfl (nI_add (k) 1) (by decide) rfl (fun ls hl => ?_)
        refine lv_goto (tgt := 4) hx hb dX0_pinned_27 (by decide) ?_
        exact ih (k + 1) (by omega) _ _ Y ls (by rw [cnt_0 (by have := (nI_le0 hb6).mp c18; omega)]; exact lv_sub hl [1, 2, 0] rfl)
      · refine lv_iinc (v := nI (cnt (apn a) k + 1)) (lv' := [(1, .int (nI (cnt (apn a) k + 1))), (0, .ref (ga0 g)), (2, .int (nI (k)))]) hx hb dX0_pinned_21 hl (k := 1) rfl (nI_add (cnt (apn a) k) 1) (by decide) rfl (fun ls hl => ?_)
        refine lv_iinc (v := nI (k + 1)) (lv' := [(2, .int (nI (k + 1))), (1, .int (nI (cnt (apn a) k + 1))), (0, .ref (ga0 g))]) hx hb dX0_pinned_24 hl (k := 2) rfl (nI_add (k) 1) (by decide) rfl (fun ls hl => ?_)
        refine lv_goto (tgt := 4) hx hb dX0_pinned_27 (by decide) ?_
        exact ih (k + 1) (by omega) _ _ Y ls (by rw [cnt_1 (Nat.pos_of_ne_zero (fun z => c18 ((nI_le0 hb6).mpr z)))]; exact lv_sub hl [2, 1, 0] rfl)
  refine lv_iconst (v := nI (0)) hx hb dX0_pinned_0 (by decide) ?_
  refine lv_istore_n (lv' := [(1, .int (nI (0))), (0, .ref (ga0 g))]) hx hb dX0_pinned_1 rfl hl (by decide) rfl (fun ls hl => ?_)
  refine lv_iconst (v := nI (0)) hx hb dX0_pinned_2 (by decide) ?_
  refine lv_istore_n (lv' := [(2, .int (nI (0))), (1, .int (nI (0))), (0, .ref (ga0 g))]) hx hb dX0_pinned_3 rfl hl (by decide) rfl (fun ls hl => ?_)
  exact loop (geF g) 0 (by omega) _ _ Y ls (lv_sub hl [2, 1, 0] rfl)

set_option maxHeartbeats 4000000 in
set_option maxRecDepth 100000 in
theorem kX0_diskReads (l : Launch) (dC : Nat → ClassId) (dI : Nat → Nat → Nat) {g : GE} {N : Nat} {a : AS} {u : CS} (hR : Rep g N a u) : zMI l yX0_diskReads wsX0_diskReads ({ frames := 0, cells := 0, slots := 0, locals := 0 }) dC dI 0 g u [] (fun r u1 => u = u1 ∧ r = ard a) := by
  refine zMI_of (cc := cX0_diskReads) (maxL := 1) (ret := (some .int)) (by decide) rfl (Nat.le_of_ble_eq_true rfl) ?_
  intro p e s m below meth c A ls Z Y hl
  have hin : ∀ w ∈ wsX00, w ∈ wsX0_diskReads := fun w h => List.mem_cons_of_mem _ (List.mem_append_right _ h)
  obtain ⟨hx, hb, hml, hown, hts, hr, hlk⟩ := id Z
  have L53 := hts (.fieldLink RX0 53 "FramePool" "reads" "I") (by decide +kernel)
  have hl : lv_has ls 1 [(0, .ref (ga0 g))] := hl
  have hg := hR.1
  have hN := hR.2.1
  obtain ⟨b1, b2, b3, b4, b5, b6, b7⟩ := gokB hg
  obtain ⟨r3, r4, r5, r6, r7, r8, r9, r10, r11⟩ := id hR.2.2.1
  obtain ⟨i1, i2, i3, i4, i5⟩ := id hR.2.2.2
  refine lv_aload_n hx hb dX0_diskReads_0 rfl (lv_at hl 0 rfl) ?_
  refine z_get (T := TX0) (v := .int (csr (u))) Z hin rfl Y 10 (by decide) L53 rfl rfl dX0_diskReads_1 ?_
  exact z_ret (v := csr (u)) (u := u) Z Y (rfl) (⟨rfl, r10⟩) dX0_diskReads_4

set_option maxHeartbeats 4000000 in
set_option maxRecDepth 100000 in
theorem kX0_diskWrites (l : Launch) (dC : Nat → ClassId) (dI : Nat → Nat → Nat) {g : GE} {N : Nat} {a : AS} {u : CS} (hR : Rep g N a u) : zMI l yX0_diskWrites wsX0_diskWrites ({ frames := 0, cells := 0, slots := 0, locals := 0 }) dC dI 0 g u [] (fun r u1 => u = u1 ∧ r = awr a) := by
  refine zMI_of (cc := cX0_diskWrites) (maxL := 1) (ret := (some .int)) (by decide) rfl (Nat.le_of_ble_eq_true rfl) ?_
  intro p e s m below meth c A ls Z Y hl
  have hin : ∀ w ∈ wsX00, w ∈ wsX0_diskWrites := fun w h => List.mem_cons_of_mem _ (List.mem_append_right _ h)
  obtain ⟨hx, hb, hml, hown, hts, hr, hlk⟩ := id Z
  have L56 := hts (.fieldLink RX0 56 "FramePool" "writes" "I") (by decide +kernel)
  have hl : lv_has ls 1 [(0, .ref (ga0 g))] := hl
  have hg := hR.1
  have hN := hR.2.1
  obtain ⟨b1, b2, b3, b4, b5, b6, b7⟩ := gokB hg
  obtain ⟨r3, r4, r5, r6, r7, r8, r9, r10, r11⟩ := id hR.2.2.1
  obtain ⟨i1, i2, i3, i4, i5⟩ := id hR.2.2.2
  refine lv_aload_n hx hb dX0_diskWrites_0 rfl (lv_at hl 0 rfl) ?_
  refine z_get (T := TX0) (v := .int (csw (u))) Z hin rfl Y 11 (by decide) L56 rfl rfl dX0_diskWrites_1 ?_
  exact z_ret (v := csw (u)) (u := u) Z Y (rfl) (⟨rfl, r11⟩) dX0_diskWrites_4

set_option maxHeartbeats 4000000 in
set_option maxRecDepth 100000 in
theorem kX0_hand (l : Launch) (dC : Nat → ClassId) (dI : Nat → Nat → Nat) {g : GE} {N : Nat} {a : AS} {u : CS} (hR : Rep g N a u) : zMI l yX0_hand wsX0_hand ({ frames := 0, cells := 0, slots := 0, locals := 0 }) dC dI 0 g u [] (fun r u1 => u = u1 ∧ r = nI (ahd a)) := by
  refine zMI_of (cc := cX0_hand) (maxL := 1) (ret := (some .int)) (by decide) rfl (Nat.le_of_ble_eq_true rfl) ?_
  intro p e s m below meth c A ls Z Y hl
  have hin : ∀ w ∈ wsX00, w ∈ wsX0_hand := fun w h => List.mem_cons_of_mem _ (List.mem_append_right _ h)
  obtain ⟨hx, hb, hml, hown, hts, hr, hlk⟩ := id Z
  have L50 := hts (.fieldLink RX0 50 "FramePool" "handAt" "I") (by decide +kernel)
  have hl : lv_has ls 1 [(0, .ref (ga0 g))] := hl
  have hg := hR.1
  have hN := hR.2.1
  obtain ⟨b1, b2, b3, b4, b5, b6, b7⟩ := gokB hg
  obtain ⟨r3, r4, r5, r6, r7, r8, r9, r10, r11⟩ := id hR.2.2.1
  obtain ⟨i1, i2, i3, i4, i5⟩ := id hR.2.2.2
  refine lv_aload_n hx hb dX0_hand_0 rfl (lv_at hl 0 rfl) ?_
  refine z_get (T := TX0) (v := .int (csh (u))) Z hin rfl Y 9 (by decide) L50 rfl rfl dX0_hand_1 ?_
  exact z_ret (v := csh (u)) (u := u) Z Y (rfl) (⟨rfl, r9⟩) dX0_hand_4

set_option maxHeartbeats 4000000 in
set_option maxRecDepth 100000 in
theorem kX0_resident (l : Launch) (dC : Nat → ClassId) (dI : Nat → Nat → Nat) {g : GE} {N : Nat} {a : AS} {u : CS} (hR : Rep g N a u) (x : Int32) : zMI l yX0_resident wsX0_resident ({ frames := 2, cells := 0, slots := 0, locals := 43 }) dC dI 0 g u [.int (x)] (fun r u1 => u = u1 ∧ r = spRes g a x) := by
  refine zMI_of (cc := cX0_resident) (maxL := 2) (ret := (some .boolean)) (by decide) rfl (Nat.le_of_ble_eq_true rfl) ?_
  intro p e s m below meth c A ls Z Y hl
  have hin : ∀ w ∈ wsX00, w ∈ wsX0_resident := fun w h => List.mem_cons_of_mem _ (List.mem_append_right _ h)
  obtain ⟨hx, hb, hml, hown, hts, hr, hlk⟩ := id Z
  have hl : lv_has ls 2 [(0, .ref (ga0 g)), (1, .int (x))] := hl
  have hg := hR.1
  have hN := hR.2.1
  obtain ⟨b1, b2, b3, b4, b5, b6, b7⟩ := gokB hg
  obtain ⟨r3, r4, r5, r6, r7, r8, r9, r10, r11⟩ := id hR.2.2.1
  obtain ⟨i1, i2, i3, i4, i5⟩ := id hR.2.2.2
  refine lv_aload_n hx hb dX0_resident_0 rfl (lv_at hl 0 rfl) ?_
  refine lv_iload_n hx hb dX0_resident_1 rfl (lv_at hl 1 rfl) ?_
  refine z_callI (rest := []) Z Y rfl (kX0_frameOf l dC dI hR x) (cwV 1 hts gX0_resident_X0_frameOf rfl rfl rfl (by decide +kernel) ⟨Nat.le_of_ble_eq_true rfl, Nat.le_of_ble_eq_true rfl⟩) rfl hl.1 rfl (Nat.le_of_ble_eq_true rfl) dX0_resident_2 ⟨Nat.zero_le _, Nat.zero_le _⟩ (fun r2 u2 Hq lq hw Y => ?_)
  obtain ⟨rfl, hw⟩ := hw
  rcases hw with ⟨f, q2, hf2, hq2, rfl, rfl, hp2, hfo2⟩ | ⟨rfl, hfo2⟩
  · have hne : nI f ≠ -1 := nI_ne_m1 (by omega)
    refine lv_iconst (v := (-1)) hx hb dX0_resident_5 (by decide) ?_
    refine lv_icmp_eq (tgt := 13) hx hb dX0_resident_6 (by decide) (fun c6 => absurd c6 (hne)) (fun _ => ?_)
    refine lv_iconst (v := nI (1)) hx hb dX0_resident_9 (by decide) ?_
    refine lv_goto (tgt := 14) hx hb dX0_resident_10 (by decide) ?_
    exact z_ret (v := nI (1)) (u := u) Z Y (rfl) (⟨rfl, (spRes_1 hfo2).symm⟩) dX0_resident_14
  · refine lv_iconst (v := (-1)) hx hb dX0_resident_5 (by decide) ?_
    refine lv_icmp_eq (tgt := 13) hx hb dX0_resident_6 (by decide) (fun _ => ?_) (fun c6 => absurd (rfl) c6)
    refine lv_iconst (v := nI (0)) hx hb dX0_resident_13 (by decide) ?_
    exact z_ret (v := nI (0)) (u := u) Z Y (rfl) (⟨rfl, (spRes_0 hfo2).symm⟩) dX0_resident_14

set_option maxHeartbeats 4000000 in
set_option maxRecDepth 100000 in
theorem kX0_readWord (l : Launch) (dC : Nat → ClassId) (dI : Nat → Nat → Nat) {g : GE} {N : Nat} {a : AS} {u : CS} (hR : Rep g N a u) (hX : geS g = geW g) (x y : Int32) : zMI l yX0_readWord wsX0_readWord ({ frames := 2, cells := 0, slots := 0, locals := 42 }) dC dI 0 g u [.int (x), .int (y)] (fun r u1 => u = u1 ∧ r = spReadW g a x y) := by
  refine zMI_of (cc := cX0_readWord) (maxL := 3) (ret := (some .int)) (by decide) rfl (Nat.le_of_ble_eq_true rfl) ?_
  intro p e s m below meth c A ls Z Y hl
  have hin : ∀ w ∈ wsX00, w ∈ wsX0_readWord := fun w h => List.mem_cons_of_mem _ (List.mem_append_right _ h)
  obtain ⟨hx, hb, hml, hown, hts, hr, hlk⟩ := id Z
  have L20 := hts (.fieldLink RX0 20 "FramePool" "wordCount" "I") (by decide +kernel)
  have L27 := hts (.fieldLink RX0 27 "FramePool" "frameWords" "[I") (by decide +kernel)
  have hl : lv_has ls 3 [(0, .ref (ga0 g)), (1, .int (x)), (2, .int (y))] := hl
  have hg := hR.1
  have hN := hR.2.1
  obtain ⟨b1, b2, b3, b4, b5, b6, b7⟩ := gokB hg
  obtain ⟨r3, r4, r5, r6, r7, r8, r9, r10, r11⟩ := id hR.2.2.1
  obtain ⟨i1, i2, i3, i4, i5⟩ := id hR.2.2.2
  refine lv_aload_n hx hb dX0_readWord_0 rfl (lv_at hl 0 rfl) ?_
  refine lv_iload_n hx hb dX0_readWord_1 rfl (lv_at hl 1 rfl) ?_
  refine z_callI (rest := []) Z Y rfl (kX0_isPinnedFrame l dC dI hR x) (cwV 1 hts gX0_readWord_X0_isPinnedFrame rfl rfl rfl (by decide +kernel) ⟨Nat.le_of_ble_eq_true rfl, Nat.le_of_ble_eq_true rfl⟩) rfl hl.1 rfl (Nat.le_of_ble_eq_true rfl) dX0_readWord_2 ⟨Nat.zero_le _, Nat.zero_le _⟩ (fun r2 u2 Hq lq hw Y => ?_)
  obtain ⟨rfl, hw⟩ := hw
  rcases hw with ⟨rfl, hw2⟩ | ⟨rfl, hw2⟩
  · refine lv_if_eq (tgt := 16) hx hb dX0_readWord_5 (by decide) (fun c5 => absurd c5 (by decide)) (fun _ => ?_)
    refine lv_aload_n hx hb dX0_readWord_8 rfl (lv_at hl 0 rfl) ?_
    refine lv_iload_n hx hb dX0_readWord_9 rfl (lv_at hl 2 rfl) ?_
    refine z_callI (rest := []) Z Y rfl (kX0_isOffset l dC dI hg u y) (cwV 1 hts gX0_readWord_X0_isOffset rfl rfl rfl (by decide +kernel) ⟨Nat.le_of_ble_eq_true rfl, Nat.le_of_ble_eq_true rfl⟩) rfl hl.1 rfl (Nat.le_of_ble_eq_true rfl) dX0_readWord_10 ⟨Nat.zero_le _, Nat.zero_le _⟩ (fun r10 u10 Hq lq hw Y => ?_)
    obtain ⟨rfl, hw⟩ := hw
    rcases hw with ⟨rfl, hw10⟩ | ⟨rfl, hw10⟩
    · obtain ⟨hv2, hw0⟩ := hw2
      obtain ⟨k, hk, rfl⟩ := vp_in_of hv2 b1
      rw [nI_clamp (by omega)] at hw0
      obtain ⟨j, hj, rfl⟩ := vp_in_of hw10 b3
      refine lv_if_ne (tgt := 18) hx hb dX0_readWord_13 (by decide) (fun _ => ?_) (fun c13 => absurd c13 (by decide))
      refine lv_aload_n hx hb dX0_readWord_18 rfl (lv_at hl 0 rfl) ?_
      refine z_get (T := TX0) (v := .ref (ga4 g)) Z hin rfl Y 4 (by decide) L27 rfl rfl dX0_readWord_19 ?_
      refine lv_iload_n hx hb dX0_readWord_22 rfl (lv_at hl 1 rfl) ?_
      refine lv_aload_n hx hb dX0_readWord_23 rfl (lv_at hl 0 rfl) ?_
      refine z_get (T := TX0) (v := .int (nI (geW g))) Z hin rfl Y 2 (by decide) L20 rfl rfl dX0_readWord_24 ?_
      refine lv_imul hx hb dX0_readWord_27 ?_
      refine z_top (nI (k * geS g)) (by rw [hX]; exact pk_mul _ _) ?_
      refine lv_iload_n hx hb dX0_readWord_28 rfl (lv_at hl 2 rfl) ?_
      refine lv_iadd hx hb dX0_readWord_29 ?_
      refine z_top (nI ((k * geS g) + (j))) (nI_add (k * geS g) (j)) ?_
      refine z_ld4 Z Y ((k * geS g) + (j)) (rfl) (lt4 hg hk hj rfl) (by omega) dX0_readWord_30 ?_
      refine z_top (amm a k j) (rd4 hR hk hj rfl) ?_
      exact z_ret (v := amm a k j) (u := u) Z Y (rfl) (⟨rfl, (spReadW_t (by omega) (by omega) hv2 hw0 hw10).symm⟩) dX0_readWord_31
    · refine lv_if_ne (tgt := 18) hx hb dX0_readWord_13 (by decide) (fun c13 => absurd (by decide) c13) (fun _ => ?_)
      refine lv_iconst (v := nI (0)) hx hb dX0_readWord_16 (by decide) ?_
      exact z_ret (v := nI (0)) (u := u) Z Y (rfl) (⟨rfl, (spReadW_f (fun q => hw10 q.2)).symm⟩) dX0_readWord_17
  · refine lv_if_eq (tgt := 16) hx hb dX0_readWord_5 (by decide) (fun _ => ?_) (fun c5 => absurd (by decide) c5)
    refine lv_iconst (v := nI (0)) hx hb dX0_readWord_16 (by decide) ?_
    exact z_ret (v := nI (0)) (u := u) Z Y (rfl) (⟨rfl, (spReadW_f (fun q => hw2 q.1)).symm⟩) dX0_readWord_17

set_option maxHeartbeats 4000000 in
set_option maxRecDepth 100000 in
theorem kX0_diskWord (l : Launch) (dC : Nat → ClassId) (dI : Nat → Nat → Nat) {g : GE} {N : Nat} {a : AS} {u : CS} (hR : Rep g N a u) (hX : geS g = geW g) (x y : Int32) : zMI l yX0_diskWord wsX0_diskWord ({ frames := 1, cells := 0, slots := 0, locals := 21 }) dC dI 0 g u [.int (x), .int (y)] (fun r u1 => u = u1 ∧ r = spDiskW g a x y) := by
  refine zMI_of (cc := cX0_diskWord) (maxL := 3) (ret := (some .int)) (by decide) rfl (Nat.le_of_ble_eq_true rfl) ?_
  intro p e s m below meth c A ls Z Y hl
  have hin : ∀ w ∈ wsX00, w ∈ wsX0_diskWord := fun w h => List.mem_cons_of_mem _ (List.mem_append_right _ h)
  obtain ⟨hx, hb, hml, hown, hts, hr, hlk⟩ := id Z
  have L20 := hts (.fieldLink RX0 20 "FramePool" "wordCount" "I") (by decide +kernel)
  have L23 := hts (.fieldLink RX0 23 "FramePool" "diskWords" "[I") (by decide +kernel)
  have hl : lv_has ls 3 [(0, .ref (ga0 g)), (1, .int (x)), (2, .int (y))] := hl
  have hg := hR.1
  have hN := hR.2.1
  obtain ⟨b1, b2, b3, b4, b5, b6, b7⟩ := gokB hg
  obtain ⟨r3, r4, r5, r6, r7, r8, r9, r10, r11⟩ := id hR.2.2.1
  obtain ⟨i1, i2, i3, i4, i5⟩ := id hR.2.2.2
  refine lv_aload_n hx hb dX0_diskWord_0 rfl (lv_at hl 0 rfl) ?_
  refine lv_iload_n hx hb dX0_diskWord_1 rfl (lv_at hl 1 rfl) ?_
  refine z_callI (rest := []) Z Y rfl (kX0_isPage l dC dI hg u x) (cwV 1 hts gX0_diskWord_X0_isPage rfl rfl rfl (by decide +kernel) ⟨Nat.le_of_ble_eq_true rfl, Nat.le_of_ble_eq_true rfl⟩) rfl hl.1 rfl (Nat.le_of_ble_eq_true rfl) dX0_diskWord_2 ⟨Nat.zero_le _, Nat.zero_le _⟩ (fun r2 u2 Hq lq hw Y => ?_)
  obtain ⟨rfl, hw⟩ := hw
  rcases hw with ⟨rfl, hw2⟩ | ⟨rfl, hw2⟩
  · refine lv_if_eq (tgt := 16) hx hb dX0_diskWord_5 (by decide) (fun c5 => absurd c5 (by decide)) (fun _ => ?_)
    refine lv_aload_n hx hb dX0_diskWord_8 rfl (lv_at hl 0 rfl) ?_
    refine lv_iload_n hx hb dX0_diskWord_9 rfl (lv_at hl 2 rfl) ?_
    refine z_callI (rest := []) Z Y rfl (kX0_isOffset l dC dI hg u y) (cwV 1 hts gX0_diskWord_X0_isOffset rfl rfl rfl (by decide +kernel) ⟨Nat.le_of_ble_eq_true rfl, Nat.le_of_ble_eq_true rfl⟩) rfl hl.1 rfl (Nat.le_of_ble_eq_true rfl) dX0_diskWord_10 ⟨Nat.zero_le _, Nat.zero_le _⟩ (fun r10 u10 Hq lq hw Y => ?_)
    obtain ⟨rfl, hw⟩ := hw
    rcases hw with ⟨rfl, hw10⟩ | ⟨rfl, hw10⟩
    · obtain ⟨k, hk, rfl⟩ := vp_in_of hw2 b2
      obtain ⟨j, hj, rfl⟩ := vp_in_of hw10 b3
      refine lv_if_ne (tgt := 18) hx hb dX0_diskWord_13 (by decide) (fun _ => ?_) (fun c13 => absurd c13 (by decide))
      refine lv_aload_n hx hb dX0_diskWord_18 rfl (lv_at hl 0 rfl) ?_
      refine z_get (T := TX0) (v := .ref (ga3 g)) Z hin rfl Y 3 (by decide) L23 rfl rfl dX0_diskWord_19 ?_
      refine lv_iload_n hx hb dX0_diskWord_22 rfl (lv_at hl 1 rfl) ?_
      refine lv_aload_n hx hb dX0_diskWord_23 rfl (lv_at hl 0 rfl) ?_
      refine z_get (T := TX0) (v := .int (nI (geW g))) Z hin rfl Y 2 (by decide) L20 rfl rfl dX0_diskWord_24 ?_
      refine lv_imul hx hb dX0_diskWord_27 ?_
      refine z_top (nI (k * geS g)) (by rw [hX]; exact pk_mul _ _) ?_
      refine lv_iload_n hx hb dX0_diskWord_28 rfl (lv_at hl 2 rfl) ?_
      refine lv_iadd hx hb dX0_diskWord_29 ?_
      refine z_top (nI ((k * geS g) + (j))) (nI_add (k * geS g) (j)) ?_
      refine z_ld3 Z Y ((k * geS g) + (j)) (rfl) (lt3 hg hk hj rfl) (by omega) dX0_diskWord_30 ?_
      refine z_top (adk a k j) (rd3 hR hk hj rfl) ?_
      exact z_ret (v := adk a k j) (u := u) Z Y (rfl) (⟨rfl, (spDiskW_t (by omega) (by omega) hw2 hw10).symm⟩) dX0_diskWord_31
    · refine lv_if_ne (tgt := 18) hx hb dX0_diskWord_13 (by decide) (fun c13 => absurd (by decide) c13) (fun _ => ?_)
      refine lv_iconst (v := nI (0)) hx hb dX0_diskWord_16 (by decide) ?_
      exact z_ret (v := nI (0)) (u := u) Z Y (rfl) (⟨rfl, (spDiskW_f (fun q => hw10 q.2)).symm⟩) dX0_diskWord_17
  · refine lv_if_eq (tgt := 16) hx hb dX0_diskWord_5 (by decide) (fun _ => ?_) (fun c5 => absurd (by decide) c5)
    refine lv_iconst (v := nI (0)) hx hb dX0_diskWord_16 (by decide) ?_
    exact z_ret (v := nI (0)) (u := u) Z Y (rfl) (⟨rfl, (spDiskW_f (fun q => hw2 q.1)).symm⟩) dX0_diskWord_17

theorem tb_out {y : Int32} (h0 : ¬ y = nI 0) (h1 : ¬ y = nI 1) (h2 : ¬ y = nI 2) (h3 : ¬ y = nI 3) : y.toInt < 0 ∨ 3 < y.toInt := by
  by_cases h : y.toInt < 0
  · exact Or.inl h
  · refine Or.inr (Int.not_le.mp fun q => ?_)
    obtain ⟨j, hj, rfl⟩ := nI_of (x := y) (fun z => h (by rw [Int32.lt_iff_toInt_lt] at z; exact z))
    rw [nI_toInt hj] at q
    rcases (show j = 0 ∨ j = 1 ∨ j = 2 ∨ j = 3 by omega) with rfl | rfl | rfl | rfl
    · exact h0 rfl
    · exact h1 rfl
    · exact h2 rfl
    · exact h3 rfl

set_option maxHeartbeats 4000000 in
set_option maxRecDepth 100000 in
theorem kX0_told (l : Launch) (dC : Nat → ClassId) (dI : Nat → Nat → Nat) {g : GE} {N : Nat} {a : AS} {u : CS} (hR : Rep g N a u) (x y : Int32) : zMI l yX0_told wsX0_told ({ frames := 1, cells := 0, slots := 0, locals := 21 }) dC dI 0 g u [.int (x), .int (y)] (fun r u1 => u = u1 ∧ r = spTold g a x y) := by
  refine zMI_of (cc := cX0_told) (maxL := 3) (ret := (some .int)) (by decide) rfl (Nat.le_of_ble_eq_true rfl) ?_
  intro p e s m below meth c A ls Z Y hl
  have hin : ∀ w ∈ wsX00, w ∈ wsX0_told := fun w h => List.mem_cons_of_mem _ (List.mem_append_right _ h)
  obtain ⟨hx, hb, hml, hown, hts, hr, hlk⟩ := id Z
  have L30 := hts (.fieldLink RX0 30 "FramePool" "pageIn" "[I") (by decide +kernel)
  have L33 := hts (.fieldLink RX0 33 "FramePool" "pins" "[I") (by decide +kernel)
  have L36 := hts (.fieldLink RX0 36 "FramePool" "dirty" "[Z") (by decide +kernel)
  have L40 := hts (.fieldLink RX0 40 "FramePool" "marked" "[Z") (by decide +kernel)
  have hl : lv_has ls 3 [(0, .ref (ga0 g)), (1, .int (x)), (2, .int (y))] := hl
  have hg := hR.1
  have hN := hR.2.1
  obtain ⟨b1, b2, b3, b4, b5, b6, b7⟩ := gokB hg
  obtain ⟨r3, r4, r5, r6, r7, r8, r9, r10, r11⟩ := id hR.2.2.1
  obtain ⟨i1, i2, i3, i4, i5⟩ := id hR.2.2.2
  refine lv_aload_n hx hb dX0_told_0 rfl (lv_at hl 0 rfl) ?_
  refine lv_iload_n hx hb dX0_told_1 rfl (lv_at hl 1 rfl) ?_
  refine z_callI (rest := []) Z Y rfl (kX0_isFrame l dC dI hg u x) (cwV 1 hts gX0_told_X0_isFrame rfl rfl rfl (by decide +kernel) ⟨Nat.le_of_ble_eq_true rfl, Nat.le_of_ble_eq_true rfl⟩) rfl hl.1 rfl (Nat.le_of_ble_eq_true rfl) dX0_told_2 ⟨Nat.zero_le _, Nat.zero_le _⟩ (fun r2 u2 Hq lq hw Y => ?_)
  obtain ⟨rfl, hw⟩ := hw
  rcases hw with ⟨rfl, hw2⟩ | ⟨rfl, hw2⟩
  · obtain ⟨k, hk, rfl⟩ := vp_in_of hw2 b1
    have hT := fun w => spTold_t (a := a) (w := w) (show k < 2 ^ 31 by omega) hw2
    refine lv_if_ne (tgt := 11) hx hb dX0_told_5 (by decide) (fun _ => ?_) (fun c5 => absurd c5 (by decide))
    refine lv_iload_n hx hb dX0_told_11 rfl (lv_at hl 2 rfl) ?_
    by_cases e0 : y = nI 0
    · subst e0
      refine lv_tableIn (tgt := 44) (off := 32) hx hb dX0_told_12 (by decide +kernel) (by decide +kernel) (by decide +kernel) (by decide) ?_
      refine lv_aload_n hx hb dX0_told_44 rfl (lv_at hl 0 rfl) ?_
      refine z_get (T := TX0) (v := .ref (ga5 g)) Z hin rfl Y 5 (by decide) L30 rfl rfl dX0_told_45 ?_
      refine lv_iload_n hx hb dX0_told_48 rfl (lv_at hl 1 rfl) ?_
      refine z_ld5 Z Y (k) (rfl) (by omega) (by omega) dX0_told_49 ?_
      refine z_top (apg a k) (r5 k hk) ?_
      exact z_ret (v := apg a k) (u := u) Z Y (rfl) (⟨rfl, by rw [hT, if_pos rfl]⟩) dX0_told_50
    by_cases e1 : y = nI 1
    · subst e1
      refine lv_tableIn (tgt := 51) (off := 39) hx hb dX0_told_12 (by decide +kernel) (by decide +kernel) (by decide +kernel) (by decide) ?_
      refine lv_aload_n hx hb dX0_told_51 rfl (lv_at hl 0 rfl) ?_
      refine z_get (T := TX0) (v := .ref (ga6 g)) Z hin rfl Y 6 (by decide) L33 rfl rfl dX0_told_52 ?_
      refine lv_iload_n hx hb dX0_told_55 rfl (lv_at hl 1 rfl) ?_
      refine z_ld6 Z Y (k) (rfl) (by omega) (by omega) dX0_told_56 ?_
      refine z_top (nI (apn a k)) (r6 k hk) ?_
      exact z_ret (v := nI (apn a k)) (u := u) Z Y (rfl) (⟨rfl, by rw [hT, if_neg (by decide), if_pos rfl]⟩) dX0_told_57
    by_cases e2 : y = nI 2
    · subst e2
      refine lv_tableIn (tgt := 58) (off := 46) hx hb dX0_told_12 (by decide +kernel) (by decide +kernel) (by decide +kernel) (by decide) ?_
      refine lv_aload_n hx hb dX0_told_58 rfl (lv_at hl 0 rfl) ?_
      refine z_get (T := TX0) (v := .ref (ga7 g)) Z hin rfl Y 7 (by decide) L36 rfl rfl dX0_told_59 ?_
      refine lv_iload_n hx hb dX0_told_62 rfl (lv_at hl 1 rfl) ?_
      refine z_ld7 Z Y (k) (rfl) (by omega) (by omega) dX0_told_63 ?_
      refine z_top (adt a k) (r7 k hk) ?_
      refine lv_if_eq (tgt := 71) hx hb dX0_told_64 (by decide) (fun c64 => ?_) (fun c64 => ?_)
      · refine lv_iconst (v := nI (0)) hx hb dX0_told_71 (by decide) ?_
        exact z_ret (v := nI (0)) (u := u) Z Y (rfl) (⟨rfl, by rw [hT, if_neg (by decide), if_neg (by decide), if_pos rfl, if_pos c64]⟩) dX0_told_72
      · refine lv_iconst (v := nI (1)) hx hb dX0_told_67 (by decide) ?_
        refine lv_goto (tgt := 72) hx hb dX0_told_68 (by decide) ?_
        exact z_ret (v := nI (1)) (u := u) Z Y (rfl) (⟨rfl, by rw [hT, if_neg (by decide), if_neg (by decide), if_pos rfl, if_neg c64]⟩) dX0_told_72
    by_cases e3 : y = nI 3
    · subst e3
      refine lv_tableIn (tgt := 73) (off := 61) hx hb dX0_told_12 (by decide +kernel) (by decide +kernel) (by decide +kernel) (by decide) ?_
      refine lv_aload_n hx hb dX0_told_73 rfl (lv_at hl 0 rfl) ?_
      refine z_get (T := TX0) (v := .ref (ga8 g)) Z hin rfl Y 8 (by decide) L40 rfl rfl dX0_told_74 ?_
      refine lv_iload_n hx hb dX0_told_77 rfl (lv_at hl 1 rfl) ?_
      refine z_ld8 Z Y (k) (rfl) (by omega) (by omega) dX0_told_78 ?_
      refine z_top (amk a k) (r8 k hk) ?_
      refine lv_if_eq (tgt := 86) hx hb dX0_told_79 (by decide) (fun c79 => ?_) (fun c79 => ?_)
      · refine lv_iconst (v := nI (0)) hx hb dX0_told_86 (by decide) ?_
        exact z_ret (v := nI (0)) (u := u) Z Y (rfl) (⟨rfl, by rw [hT, if_neg (by decide), if_neg (by decide), if_neg (by decide), if_pos rfl, if_pos c79]⟩) dX0_told_87
      · refine lv_iconst (v := nI (1)) hx hb dX0_told_82 (by decide) ?_
        refine lv_goto (tgt := 87) hx hb dX0_told_83 (by decide) ?_
        exact z_ret (v := nI (1)) (u := u) Z Y (rfl) (⟨rfl, by rw [hT, if_neg (by decide), if_neg (by decide), if_neg (by decide), if_pos rfl, if_neg c79]⟩) dX0_told_87
    · refine lv_tableOut (tgt := 88) hx hb dX0_told_12 (tb_out e0 e1 e2 e3) (by decide) ?_
      refine lv_bipush (v := (-5)) hx hb dX0_told_88 (by decide) ?_
      exact z_ret (v := (-5)) (u := u) Z Y (rfl) (⟨rfl, by rw [hT, if_neg e0, if_neg e1, if_neg e2, if_neg e3]⟩) dX0_told_90
  · refine lv_if_ne (tgt := 11) hx hb dX0_told_5 (by decide) (fun c5 => absurd (by decide) c5) (fun _ => ?_)
    refine lv_bipush (v := (-5)) hx hb dX0_told_8 (by decide) ?_
    exact z_ret (v := (-5)) (u := u) Z Y (rfl) (⟨rfl, (spTold_f hw2).symm⟩) dX0_told_10
