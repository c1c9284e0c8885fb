/-! ===== FramePoolModel: the methods that only look ===== -/
theorem m8 {g : GE} {k : Nat} (h : geS g = 8) : nI 8 * nI k = nI (k * geS g) := by rw [h, pk_mul, Nat.mul_comm]
theorem nI_ne_m5 {n : Nat} (h : n < 2 ^ 31) : nI n ≠ -5 := by
  intro e
  have h1 := nI_toInt h
  rw [e] at h1
  have h2 : (-5 : Int32).toInt = -5 := by decide +kernel
  omega
theorem Rp_emptyE {g : GE} {N : Nat} {a : AS} {u : CS} {f : Nat} (hi : Iv g N a) (hf : f < geF g) (he : apg a f = -1) (h : Rp g a u) : Rp g a (cs3 u, cs4 u, upd (cs5 u) f (-1), upd (cs6 u) f (nI 0), upd (cs7 u) f (nI 0), upd (cs8 u) f (nI 0), csh u, csr u, csw u) := by
  obtain ⟨h3, h4, h5, h6, h7, h8, h9, h10, h11⟩ := h
  obtain ⟨q1, q2, q3⟩ := hi.2.2.2.1 f hf he
  exact ⟨h3, h4, ag_same h5 (fun _ => he), ag_same (h := fun j => nI (apn a j)) h6 (fun _ => by show nI (apn a f) = nI 0; rw [q1]), ag_same h7 (fun _ => q2), ag_same h8 (fun _ => q3), h9, h10, h11⟩
theorem cpy_self {h t : Nat → Int32} {k2 f s k W : Nat} (hk : k < W) (hW : W ≤ s) : va_cpy h t (k2 * s) (f * s) k (k2 * s + k) = t (k2 * s + k) := by
  refine pk_cpy_out ?_
  rcases Nat.lt_or_ge k2 f with q | q
  · have : (k2 + 1) * s ≤ f * s := Nat.mul_le_mul_right s q
    rw [Nat.succ_mul] at this
    exact Or.inl (by omega)
  · have : f * s ≤ k2 * s := Nat.mul_le_mul_right s q
    exact Or.inr (by omega)

set_option maxHeartbeats 4000000 in
set_option maxRecDepth 100000 in
theorem kX1_isPage (l : Launch) (dC : Nat → ClassId) (dI : Nat → Nat → Nat) {g : GE} (hg : gok g) (u : CS) (x : Int32) : zMI l yX1_isPage wsX1_isPage ({ frames := 0, cells := 0, slots := 0, locals := 0 }) dC dI 1 g u [.int (x)] (fun r u1 => u = u1 ∧ bP r (vp_in x (geP g))) := by
  refine zMI_of (cc := cX1_isPage) (maxL := 2) (ret := (some .boolean)) (by decide) rfl (Nat.le_of_ble_eq_true rfl) ?_
  intro p e s m below meth c A ls Z Y hl
  have hin : ∀ w ∈ wsX10, w ∈ wsX1_isPage := fun w h => List.mem_cons_of_mem _ (List.mem_append_right _ h)
  obtain ⟨hx, hb, hml, hown, hts, hr, hlk⟩ := id Z
  have L33 := hts (.fieldLink RX1 33 "FramePoolModel" "pages" "I") (by decide +kernel)
  have hl : lv_has ls 2 [(0, .ref (ga0 g)), (1, .int (x))] := hl
  have hn : geP g < 2 ^ 31 := (gokB hg).2.1
  refine lv_iload_n hx hb dX1_isPage_0 rfl (lv_at hl 1 rfl) ?_
  refine lv_if_lt (tgt := 16) hx hb dX1_isPage_1 (by decide) (fun c1 => ?_) (fun c1 => ?_)
  · refine lv_iconst (v := nI (0)) hx hb dX1_isPage_16 (by decide) ?_
    exact z_ret (v := nI (0)) (u := u) Z Y (rfl) (⟨rfl, Or.inr ⟨rfl, not_in_neg c1⟩⟩) dX1_isPage_17
  · refine lv_iload_n hx hb dX1_isPage_4 rfl (lv_at hl 1 rfl) ?_
    refine lv_aload_n hx hb dX1_isPage_5 rfl (lv_at hl 0 rfl) ?_
    refine z_get (T := TX1) (v := .int (nI (geP g))) Z hin rfl Y 1 (by decide) L33 rfl rfl dX1_isPage_6 ?_
    refine lv_icmp_ge (tgt := 16) hx hb dX1_isPage_9 (by decide) (fun c9 => ?_) (fun c9 => ?_)
    · refine lv_iconst (v := nI (0)) hx hb dX1_isPage_16 (by decide) ?_
      exact z_ret (v := nI (0)) (u := u) Z Y (rfl) (⟨rfl, Or.inr ⟨rfl, not_in_ge hn c9⟩⟩) dX1_isPage_17
    · refine lv_iconst (v := nI (1)) hx hb dX1_isPage_12 (by decide) ?_
      refine lv_goto (tgt := 17) hx hb dX1_isPage_13 (by decide) ?_
      exact z_ret (v := nI (1)) (u := u) Z Y (rfl) (⟨rfl, Or.inl ⟨rfl, (in_iff hn).mpr ⟨i_le_of c1, i_lt_of c9⟩⟩⟩) dX1_isPage_17

set_option maxHeartbeats 4000000 in
set_option maxRecDepth 100000 in
theorem kX1_isPinned (l : Launch) (dC : Nat → ClassId) (dI : Nat → Nat → Nat) {g : GE} {N : Nat} {a : AS} {u : CS} (hR : Rep g N a u) (x : Int32) : zMI l yX1_isPinned wsX1_isPinned ({ frames := 0, cells := 0, slots := 0, locals := 0 }) dC dI 1 g u [.int (x)] (fun r u1 => u = u1 ∧ bP r (vp_in x (geF g) ∧ 0 < apn a x.toNatClampNeg)) := by
  refine zMI_of (cc := cX1_isPinned) (maxL := 2) (ret := (some .boolean)) (by decide) rfl (Nat.le_of_ble_eq_true rfl) ?_
  intro p e s m below meth c A ls Z Y hl
  have hin : ∀ w ∈ wsX10, w ∈ wsX1_isPinned := fun w h => List.mem_cons_of_mem _ (List.mem_append_right _ h)
  obtain ⟨hx, hb, hml, hown, hts, hr, hlk⟩ := id Z
  have L19 := hts (.fieldLink RX1 19 "FramePoolModel" "pins" "[I") (by decide +kernel)
  have L29 := hts (.fieldLink RX1 29 "FramePoolModel" "frames" "I") (by decide +kernel)
  have hl : lv_has ls 2 [(0, .ref (ga0 g)), (1, .int (x))] := hl
  have hg := hR.1
  have hN := hR.2.1
  obtain ⟨b1, b2, b3, b4, b5, b6, b7⟩ := gokB hg
  obtain ⟨r3, r4, r5, r6, r7, r8, r9, r10, r11⟩ := id hR.2.2.1
  obtain ⟨i1, i2, i3, i4, i5⟩ := id hR.2.2.2
  refine lv_iload_n hx hb dX1_isPinned_0 rfl (lv_at hl 1 rfl) ?_
  refine lv_if_lt (tgt := 25) hx hb dX1_isPinned_1 (by decide) (fun c1 => ?_) (fun c1 => ?_)
  · refine lv_iconst (v := nI (0)) hx hb dX1_isPinned_25 (by decide) ?_
    exact z_ret (v := nI (0)) (u := u) Z Y (rfl) (⟨rfl, Or.inr ⟨rfl, fun q => not_in_neg c1 q.1⟩⟩) dX1_isPinned_26
  · refine lv_iload_n hx hb dX1_isPinned_4 rfl (lv_at hl 1 rfl) ?_
    refine lv_aload_n hx hb dX1_isPinned_5 rfl (lv_at hl 0 rfl) ?_
    refine z_get (T := TX1) (v := .int (nI (geF g))) Z hin rfl Y 0 (by decide) L29 rfl rfl dX1_isPinned_6 ?_
    refine lv_icmp_ge (tgt := 25) hx hb dX1_isPinned_9 (by decide) (fun c9 => ?_) (fun c9 => ?_)
    · refine lv_iconst (v := nI (0)) hx hb dX1_isPinned_25 (by decide) ?_
      exact z_ret (v := nI (0)) (u := u) Z Y (rfl) (⟨rfl, Or.inr ⟨rfl, fun q => not_in_ge b1 c9 q.1⟩⟩) dX1_isPinned_26
    · obtain ⟨k, hk, rfl⟩ := in_of b1 (i_le_of c1) (i_lt_of c9)
      refine lv_aload_n hx hb dX1_isPinned_12 rfl (lv_at hl 0 rfl) ?_
      refine z_get (T := TX1) (v := .ref (ga6 g)) Z hin rfl Y 6 (by decide) L19 rfl rfl dX1_isPinned_13 ?_
      refine lv_iload_n hx hb dX1_isPinned_16 rfl (lv_at hl 1 rfl) ?_
      refine z_ld6 Z Y (k) (rfl) (by omega) (by omega) dX1_isPinned_17 ?_
      refine z_top (nI (apn a k)) (r6 k hk) ?_
      have hk31 : k < 2 ^ 31 := by omega
      have hb6 : apn a k < 2 ^ 31 := by have := pn31 hR hk; omega
      refine lv_if_le (tgt := 25) hx hb dX1_isPinned_18 (by decide) (fun c18 => ?_) (fun c18 => ?_)
      · refine lv_iconst (v := nI (0)) hx hb dX1_isPinned_25 (by decide) ?_
        exact z_ret (v := nI (0)) (u := u) Z Y (rfl) (⟨rfl, Or.inr ⟨rfl, fun q => by have := (nI_le0 hb6).mp c18; have := q.2; rw [nI_clamp hk31] at this; omega⟩⟩) dX1_isPinned_26
      · refine lv_iconst (v := nI (1)) hx hb dX1_isPinned_21 (by decide) ?_
        refine lv_goto (tgt := 26) hx hb dX1_isPinned_22 (by decide) ?_
        exact z_ret (v := nI (1)) (u := u) Z Y (rfl) (⟨rfl, Or.inl ⟨rfl, in_nI hk b1, by rw [nI_clamp hk31]; exact Nat.pos_of_ne_zero (fun z => c18 ((nI_le0 hb6).mpr z))⟩⟩) dX1_isPinned_26

set_option maxHeartbeats 4000000 in
set_option maxRecDepth 100000 in
theorem kX1_frameOf (l : Launch) (dC : Nat → ClassId) (dI : Nat → Nat → Nat) {g : GE} {N : Nat} {a : AS} {u : CS} (hR : Rep g N a u) (x : Int32) : zMI l yX1_frameOf wsX1_frameOf ({ frames := 0, cells := 0, slots := 0, locals := 0 }) dC dI 1 g u [.int (x)] (fun r u1 => u = u1 ∧ foP g a x (-5) r) := by
  refine zMI_of (cc := cX1_frameOf) (maxL := 3) (ret := (some .int)) (by decide) rfl (Nat.le_of_ble_eq_true rfl) ?_
  intro p e s m below meth c A ls Z Y hl
  have hin : ∀ w ∈ wsX10, w ∈ wsX1_frameOf := fun w h => List.mem_cons_of_mem _ (List.mem_append_right _ h)
  obtain ⟨hx, hb, hml, hown, hts, hr, hlk⟩ := id Z
  have L16 := hts (.fieldLink RX1 16 "FramePoolModel" "page" "[I") (by decide +kernel)
  have L29 := hts (.fieldLink RX1 29 "FramePoolModel" "frames" "I") (by decide +kernel)
  have hl : lv_has ls 3 [(0, .ref (ga0 g)), (1, .int (x))] := hl
  have hg := hR.1
  have hN := hR.2.1
  obtain ⟨b1, b2, b3, b4, b5, b6, b7⟩ := gokB hg
  obtain ⟨r3, r4, r5, r6, r7, r8, r9, r10, r11⟩ := id hR.2.2.1
  obtain ⟨i1, i2, i3, i4, i5⟩ := id hR.2.2.2
  have loop : ∀ (n k : Nat), k + n = geF g → (¬ x < 0 → ∀ j, j < k → apg a j ≠ x) → ∀ (H : Heap) (locs : List Loc), zW dC dI 1 g A s.heap s (u) H locs → ∀ ls : Array Slot, lv_has ls 3 [(0, .ref (ga0 g)), (1, .int (x)), (2, .int (nI (k)))] → W p l e ({ frames := 0, cells := 0, slots := 0, locals := 0 }) s m (Value.ref (ga0 g) :: [.int (x)]).toArray below meth c H locs 0 0 (zQI below dC dI 1 g A (fun r u1 => u = u1 ∧ foP g a x (-5) r) (Value.ref (ga0 g) :: [.int (x)]).toArray s) (F0 m 2 ls []) := by
    intro n
    induction n with
    | zero =>
      intro k hkn hno Hq lq Y ls hl
      refine lv_iload_n hx hb dX1_frameOf_2 rfl (lv_at hl 2 rfl) ?_
      refine lv_aload_n hx hb dX1_frameOf_3 rfl (lv_at hl 0 rfl) ?_
      refine z_get (T := TX1) (v := .int (nI (geF g))) Z hin rfl Y 0 (by decide) L29 rfl rfl dX1_frameOf_4 ?_
      refine lv_icmp_ge (tgt := 32) hx hb dX1_frameOf_7 (by decide) (fun _ => ?_) (fun c7 => absurd ((nI_leI b1 (by omega)).mpr (by omega)) c7)
      refine lv_bipush (v := (-5)) hx hb dX1_frameOf_32 (by decide) ?_
      exact z_ret (v := (-5)) (u := u) Z Y (rfl) (⟨rfl, Or.inr ⟨rfl, fop_none (fun hv f hf => hno (fun z => hv (Or.inl z)) f (by omega))⟩⟩) dX1_frameOf_34
    | succ n ih =>
      intro k hkn hno Hq lq Y ls hl
      have hkF : k < geF g := by omega
      refine lv_iload_n hx hb dX1_frameOf_2 rfl (lv_at hl 2 rfl) ?_
      refine lv_aload_n hx hb dX1_frameOf_3 rfl (lv_at hl 0 rfl) ?_
      refine z_get (T := TX1) (v := .int (nI (geF g))) Z hin rfl Y 0 (by decide) L29 rfl rfl dX1_frameOf_4 ?_
      refine lv_icmp_ge (tgt := 32) hx hb dX1_frameOf_7 (by decide) (fun c7 => absurd c7 (fun q => absurd ((nI_leI b1 (by omega)).mp q) (by omega))) (fun _ => ?_)
      refine lv_iload_n hx hb dX1_frameOf_10 rfl (lv_at hl 1 rfl) ?_
      refine lv_if_lt (tgt := 26) hx hb dX1_frameOf_11 (by decide) (fun c11 => ?_) (fun c11 => ?_)
      · refine lv_iinc (v := nI (k + 1)) (lv' := [(2, .int (nI (k + 1))), (0, .ref (ga0 g)), (1, .int (x))]) hx hb dX1_frameOf_26 hl (k := 2) rfl (nI_add (k) 1) (by decide) rfl (fun ls hl => ?_)
        refine lv_goto (tgt := 2) hx hb dX1_frameOf_29 (by decide) ?_
        exact ih (k + 1) (by omega) (fun h => absurd c11 h) _ _ Y ls (lv_sub hl [1, 2, 0] rfl)
      · refine lv_aload_n hx hb dX1_frameOf_14 rfl (lv_at hl 0 rfl) ?_
        refine z_get (T := TX1) (v := .ref (ga5 g)) Z hin rfl Y 5 (by decide) L16 rfl rfl dX1_frameOf_15 ?_
        refine lv_iload_n hx hb dX1_frameOf_18 rfl (lv_at hl 2 rfl) ?_
        refine z_ld5 Z Y (k) (rfl) (by omega) (by omega) dX1_frameOf_19 ?_
        refine z_top (apg a k) (r5 k hkF) ?_
        refine lv_iload_n hx hb dX1_frameOf_20 rfl (lv_at hl 1 rfl) ?_
        refine lv_icmp_ne (tgt := 26) hx hb dX1_frameOf_21 (by decide) (fun c21 => ?_) (fun c21 => ?_)
        · refine lv_iinc (v := nI (k + 1)) (lv' := [(2, .int (nI (k + 1))), (0, .ref (ga0 g)), (1, .int (x))]) hx hb dX1_frameOf_26 hl (k := 2) rfl (nI_add (k) 1) (by decide) rfl (fun ls hl => ?_)
          refine lv_goto (tgt := 2) hx hb dX1_frameOf_29 (by decide) ?_
          exact ih (k + 1) (by omega) (fun h j hj => by rcases Nat.lt_succ_iff_lt_or_eq.mp hj with q | rfl; exact hno h j q; exact c21) _ _ Y ls (lv_sub hl [1, 2, 0] rfl)
        · refine lv_iload_n hx hb dX1_frameOf_24 rfl (lv_at hl 2 rfl) ?_
          obtain ⟨q, hq, hxq⟩ : ∃ q, q < geP g ∧ x = nI q := by
            rcases i2 k hkF with h1 | ⟨q, h1, h2⟩
            · rw [← c21, h1] at c11; exact absurd (by decide) c11
            · exact ⟨q, h1, by rw [← c21, h2]⟩
          subst hxq
          exact z_ret (v := nI (k)) (u := u) Z Y (rfl) (⟨rfl, Or.inl ⟨k, q, hkF, hq, rfl, rfl, c21, fop_some hg hR.2.2.2 hkF hq c21⟩⟩) dX1_frameOf_25
  refine lv_iconst (v := nI (0)) hx hb dX1_frameOf_0 (by decide) ?_
  refine lv_istore_n (lv' := [(2, .int (nI (0))), (0, .ref (ga0 g)), (1, .int (x))]) hx hb dX1_frameOf_1 rfl hl (by decide) rfl (fun ls hl => ?_)
  exact loop (geF g) 0 (by omega) (fun _ j hj => absurd hj (by omega)) _ _ Y ls (lv_sub hl [1, 2, 0] rfl)

set_option maxHeartbeats 4000000 in
set_option maxRecDepth 100000 in
theorem kX1_pinned (l : Launch) (dC : Nat → ClassId) (dI : Nat → Nat → Nat) {g : GE} {N : Nat} {a : AS} {u : CS} (hR : Rep g N a u) : zMI l yX1_pinned wsX1_pinned ({ frames := 0, cells := 0, slots := 0, locals := 0 }) dC dI 1 g u [] (fun r u1 => u = u1 ∧ r = nI (cnt (apn a) (geF g))) := by
  refine zMI_of (cc := cX1_pinned) (maxL := 3) (ret := (some .int)) (by decide) rfl (Nat.le_of_ble_eq_true rfl) ?_
  intro p e s m below meth c A ls Z Y hl
  have hin : ∀ w ∈ wsX10, w ∈ wsX1_pinned := fun w h => List.mem_cons_of_mem _ (List.mem_append_right _ h)
  obtain ⟨hx, hb, hml, hown, hts, hr, hlk⟩ := id Z
  have L19 := hts (.fieldLink RX1 19 "FramePoolModel" "pins" "[I") (by decide +kernel)
  have L29 := hts (.fieldLink RX1 29 "FramePoolModel" "frames" "I") (by decide +kernel)
  have hl : lv_has ls 3 [(0, .ref (ga0 g))] := hl
  have hg := hR.1
  have hN := hR.2.1
  obtain ⟨b1, b2, b3, b4, b5, b6, b7⟩ := gokB hg
  obtain ⟨r3, r4, r5, r6, r7, r8, r9, r10, r11⟩ := id hR.2.2.1
  obtain ⟨i1, i2, i3, i4, i5⟩ := id hR.2.2.2
  have loop : ∀ (n k : Nat), k + n = geF g → ∀ (H : Heap) (locs : List Loc), zW dC dI 1 g A s.heap s (u) H locs → ∀ ls : Array Slot, lv_has ls 3 [(0, .ref (ga0 g)), (1, .int (nI (cnt (apn a) k))), (2, .int (nI (k)))] → W p l e ({ frames := 0, cells := 0, slots := 0, locals := 0 }) s m (Value.ref (ga0 g) :: []).toArray below meth c H locs 0 0 (zQI below dC dI 1 g A (fun r u1 => u = u1 ∧ r = nI (cnt (apn a) (geF g))) (Value.ref (ga0 g) :: []).toArray s) (F0 m 4 ls []) := by
    intro n
    induction n with
    | zero =>
      intro k hkn Hq lq Y ls hl
      obtain rfl : k = geF g := hkn
      refine lv_iload_n hx hb dX1_pinned_4 rfl (lv_at hl 2 rfl) ?_
      refine lv_aload_n hx hb dX1_pinned_5 rfl (lv_at hl 0 rfl) ?_
      refine z_get (T := TX1) (v := .int (nI (geF g))) Z hin rfl Y 0 (by decide) L29 rfl rfl dX1_pinned_6 ?_
      refine lv_icmp_ge (tgt := 35) hx hb dX1_pinned_9 (by decide) (fun _ => ?_) (fun c9 => absurd ((nI_leI b1 (by omega)).mpr (by omega)) c9)
      refine lv_iload_n hx hb dX1_pinned_35 rfl (lv_at hl 1 rfl) ?_
      exact z_ret (v := nI (cnt (apn a) (geF g))) (u := u) Z Y (rfl) (⟨rfl, rfl⟩) dX1_pinned_36
    | succ n ih =>
      intro k hkn Hq lq Y ls hl
      have hkF : k < geF g := by omega
      have hb6 : apn a k < 2 ^ 31 := by have := pn31 hR hkF; omega
      refine lv_iload_n hx hb dX1_pinned_4 rfl (lv_at hl 2 rfl) ?_
      refine lv_aload_n hx hb dX1_pinned_5 rfl (lv_at hl 0 rfl) ?_
      refine z_get (T := TX1) (v := .int (nI (geF g))) Z hin rfl Y 0 (by decide) L29 rfl rfl dX1_pinned_6 ?_
      refine lv_icmp_ge (tgt := 35) hx hb dX1_pinned_9 (by decide) (fun c9 => absurd c9 (fun q => absurd ((nI_leI b1 (by omega)).mp q) (by omega))) (fun _ => ?_)
      refine lv_iload_n hx hb dX1_pinned_12 rfl (lv_at hl 1 rfl) ?_
      refine lv_aload_n hx hb dX1_pinned_13 rfl (lv_at hl 0 rfl) ?_
      refine z_get (T := TX1) (v := .ref (ga6 g)) Z hin rfl Y 6 (by decide) L19 rfl rfl dX1_pinned_14 ?_
      refine lv_iload_n hx hb dX1_pinned_17 rfl (lv_at hl 2 rfl) ?_
      refine z_ld6 Z Y (k) (rfl) (by omega) (by omega) dX1_pinned_18 ?_
      refine z_top (nI (apn a k)) (r6 k hkF) ?_
      refine lv_if_le (tgt := 26) hx hb dX1_pinned_19 (by decide) (fun c19 => ?_) (fun c19 => ?_)
      · refine lv_iconst (v := nI (0)) hx hb dX1_pinned_26 (by decide) ?_
        refine lv_iadd hx hb dX1_pinned_27 ?_
        refine z_top (nI ((cnt (apn a) k) + (0))) (nI_add (cnt (apn a) k) (0)) ?_
        refine lv_istore_n (lv' := [(1, .int (nI ((cnt (apn a) k) + (0)))), (0, .ref (ga0 g)), (2, .int (nI (k)))]) hx hb dX1_pinned_28 rfl hl (by decide) rfl (fun ls hl => ?_)
        refine lv_iinc (v := nI (k + 1)) (lv' := [(2, .int (nI (k + 1))), (1, .int (nI ((cnt (apn a) k) + (0)))), (0, .ref (ga0 g))]) hx hb dX1_pinned_29 hl (k := 2) rfl (nI_add (k) 1) (by decide) rfl (fun ls hl => ?_)
        refine lv_goto (tgt := 4) hx hb dX1_pinned_32 (by decide) ?_
        exact ih (k + 1) (by omega) _ _ Y ls (by rw [cnt_0 (by have := (nI_le0 hb6).mp c19; omega)]; exact lv_sub hl [2, 1, 0] rfl)
      · refine lv_iconst (v := nI (1)) hx hb dX1_pinned_22 (by decide) ?_
        refine lv_goto (tgt := 27) hx hb dX1_pinned_23 (by decide) ?_
        refine lv_iadd hx hb dX1_pinned_27 ?_
        refine z_top (nI ((cnt (apn a) k) + (1))) (nI_add (cnt (apn a) k) (1)) ?_
        refine lv_istore_n (lv' := [(1, .int (nI ((cnt (apn a) k) + (1)))), (0, .ref (ga0 g)), (2, .int (nI (k)))]) hx hb dX1_pinned_28 rfl hl (by decide) rfl (fun ls hl => ?_)
        refine lv_iinc (v := nI (k + 1)) (lv' := [(2, .int (nI (k + 1))), (1, .int (nI ((cnt (apn a) k) + (1)))), (0, .ref (ga0 g))]) hx hb dX1_pinned_29 hl (k := 2) rfl (nI_add (k) 1) (by decide) rfl (fun ls hl => ?_)
        refine lv_goto (tgt := 4) hx hb dX1_pinned_32 (by decide) ?_
        exact ih (k + 1) (by omega) _ _ Y ls (by rw [cnt_1 (Nat.pos_of_ne_zero (fun z => c19 ((nI_le0 hb6).mpr z)))]; exact lv_sub hl [2, 1, 0] rfl)
  refine lv_iconst (v := nI (0)) hx hb dX1_pinned_0 (by decide) ?_
  refine lv_istore_n (lv' := [(1, .int (nI (0))), (0, .ref (ga0 g))]) hx hb dX1_pinned_1 rfl hl (by decide) rfl (fun ls hl => ?_)
  refine lv_iconst (v := nI (0)) hx hb dX1_pinned_2 (by decide) ?_
  refine lv_istore_n (lv' := [(2, .int (nI (0))), (1, .int (nI (0))), (0, .ref (ga0 g))]) hx hb dX1_pinned_3 rfl hl (by decide) rfl (fun ls hl => ?_)
  exact loop (geF g) 0 (by omega) _ _ Y ls (lv_sub hl [2, 1, 0] rfl)

set_option maxHeartbeats 4000000 in
set_option maxRecDepth 100000 in
theorem kX1_diskReads (l : Launch) (dC : Nat → ClassId) (dI : Nat → Nat → Nat) {g : GE} {N : Nat} {a : AS} {u : CS} (hR : Rep g N a u) : zMI l yX1_diskReads wsX1_diskReads ({ frames := 0, cells := 0, slots := 0, locals := 0 }) dC dI 1 g u [] (fun r u1 => u = u1 ∧ r = ard a) := by
  refine zMI_of (cc := cX1_diskReads) (maxL := 1) (ret := (some .int)) (by decide) rfl (Nat.le_of_ble_eq_true rfl) ?_
  intro p e s m below meth c A ls Z Y hl
  have hin : ∀ w ∈ wsX10, w ∈ wsX1_diskReads := fun w h => List.mem_cons_of_mem _ (List.mem_append_right _ h)
  obtain ⟨hx, hb, hml, hown, hts, hr, hlk⟩ := id Z
  have L49 := hts (.fieldLink RX1 49 "FramePoolModel" "reads" "I") (by decide +kernel)
  have hl : lv_has ls 1 [(0, .ref (ga0 g))] := hl
  have hg := hR.1
  have hN := hR.2.1
  obtain ⟨b1, b2, b3, b4, b5, b6, b7⟩ := gokB hg
  obtain ⟨r3, r4, r5, r6, r7, r8, r9, r10, r11⟩ := id hR.2.2.1
  obtain ⟨i1, i2, i3, i4, i5⟩ := id hR.2.2.2
  refine lv_aload_n hx hb dX1_diskReads_0 rfl (lv_at hl 0 rfl) ?_
  refine z_get (T := TX1) (v := .int (csr (u))) Z hin rfl Y 10 (by decide) L49 rfl rfl dX1_diskReads_1 ?_
  exact z_ret (v := csr (u)) (u := u) Z Y (rfl) (⟨rfl, r10⟩) dX1_diskReads_4

set_option maxHeartbeats 4000000 in
set_option maxRecDepth 100000 in
theorem kX1_diskWrites (l : Launch) (dC : Nat → ClassId) (dI : Nat → Nat → Nat) {g : GE} {N : Nat} {a : AS} {u : CS} (hR : Rep g N a u) : zMI l yX1_diskWrites wsX1_diskWrites ({ frames := 0, cells := 0, slots := 0, locals := 0 }) dC dI 1 g u [] (fun r u1 => u = u1 ∧ r = awr a) := by
  refine zMI_of (cc := cX1_diskWrites) (maxL := 1) (ret := (some .int)) (by decide) rfl (Nat.le_of_ble_eq_true rfl) ?_
  intro p e s m below meth c A ls Z Y hl
  have hin : ∀ w ∈ wsX10, w ∈ wsX1_diskWrites := fun w h => List.mem_cons_of_mem _ (List.mem_append_right _ h)
  obtain ⟨hx, hb, hml, hown, hts, hr, hlk⟩ := id Z
  have L52 := hts (.fieldLink RX1 52 "FramePoolModel" "writes" "I") (by decide +kernel)
  have hl : lv_has ls 1 [(0, .ref (ga0 g))] := hl
  have hg := hR.1
  have hN := hR.2.1
  obtain ⟨b1, b2, b3, b4, b5, b6, b7⟩ := gokB hg
  obtain ⟨r3, r4, r5, r6, r7, r8, r9, r10, r11⟩ := id hR.2.2.1
  obtain ⟨i1, i2, i3, i4, i5⟩ := id hR.2.2.2
  refine lv_aload_n hx hb dX1_diskWrites_0 rfl (lv_at hl 0 rfl) ?_
  refine z_get (T := TX1) (v := .int (csw (u))) Z hin rfl Y 11 (by decide) L52 rfl rfl dX1_diskWrites_1 ?_
  exact z_ret (v := csw (u)) (u := u) Z Y (rfl) (⟨rfl, r11⟩) dX1_diskWrites_4

set_option maxHeartbeats 4000000 in
set_option maxRecDepth 100000 in
theorem kX1_hand (l : Launch) (dC : Nat → ClassId) (dI : Nat → Nat → Nat) {g : GE} {N : Nat} {a : AS} {u : CS} (hR : Rep g N a u) : zMI l yX1_hand wsX1_hand ({ frames := 0, cells := 0, slots := 0, locals := 0 }) dC dI 1 g u [] (fun r u1 => u = u1 ∧ r = nI (ahd a)) := by
  refine zMI_of (cc := cX1_hand) (maxL := 1) (ret := (some .int)) (by decide) rfl (Nat.le_of_ble_eq_true rfl) ?_
  intro p e s m below meth c A ls Z Y hl
  have hin : ∀ w ∈ wsX10, w ∈ wsX1_hand := fun w h => List.mem_cons_of_mem _ (List.mem_append_right _ h)
  obtain ⟨hx, hb, hml, hown, hts, hr, hlk⟩ := id Z
  have L46 := hts (.fieldLink RX1 46 "FramePoolModel" "at" "I") (by decide +kernel)
  have hl : lv_has ls 1 [(0, .ref (ga0 g))] := hl
  have hg := hR.1
  have hN := hR.2.1
  obtain ⟨b1, b2, b3, b4, b5, b6, b7⟩ := gokB hg
  obtain ⟨r3, r4, r5, r6, r7, r8, r9, r10, r11⟩ := id hR.2.2.1
  obtain ⟨i1, i2, i3, i4, i5⟩ := id hR.2.2.2
  refine lv_aload_n hx hb dX1_hand_0 rfl (lv_at hl 0 rfl) ?_
  refine z_get (T := TX1) (v := .int (csh (u))) Z hin rfl Y 9 (by decide) L46 rfl rfl dX1_hand_1 ?_
  exact z_ret (v := csh (u)) (u := u) Z Y (rfl) (⟨rfl, r9⟩) dX1_hand_4

set_option maxHeartbeats 4000000 in
set_option maxRecDepth 100000 in
theorem kX1_resident (l : Launch) (dC : Nat → ClassId) (dI : Nat → Nat → Nat) {g : GE} {N : Nat} {a : AS} {u : CS} (hR : Rep g N a u) (x : Int32) : zMI l yX1_resident wsX1_resident ({ frames := 1, cells := 0, slots := 0, locals := 22 }) dC dI 1 g u [.int (x)] (fun r u1 => u = u1 ∧ r = spRes g a x) := by
  refine zMI_of (cc := cX1_resident) (maxL := 2) (ret := (some .boolean)) (by decide) rfl (Nat.le_of_ble_eq_true rfl) ?_
  intro p e s m below meth c A ls Z Y hl
  have hin : ∀ w ∈ wsX10, w ∈ wsX1_resident := fun w h => List.mem_cons_of_mem _ (List.mem_append_right _ h)
  obtain ⟨hx, hb, hml, hown, hts, hr, hlk⟩ := id Z
  have hl : lv_has ls 2 [(0, .ref (ga0 g)), (1, .int (x))] := hl
  have hg := hR.1
  have hN := hR.2.1
  obtain ⟨b1, b2, b3, b4, b5, b6, b7⟩ := gokB hg
  obtain ⟨r3, r4, r5, r6, r7, r8, r9, r10, r11⟩ := id hR.2.2.1
  obtain ⟨i1, i2, i3, i4, i5⟩ := id hR.2.2.2
  refine lv_aload_n hx hb dX1_resident_0 rfl (lv_at hl 0 rfl) ?_
  refine lv_iload_n hx hb dX1_resident_1 rfl (lv_at hl 1 rfl) ?_
  refine z_callI (rest := []) Z Y rfl (kX1_frameOf l dC dI hR x) (cwV 1 hts gX1_resident_X1_frameOf rfl rfl rfl (by decide +kernel) ⟨Nat.le_of_ble_eq_true rfl, Nat.le_of_ble_eq_true rfl⟩) rfl hl.1 rfl (Nat.le_of_ble_eq_true rfl) dX1_resident_2 ⟨Nat.zero_le _, Nat.zero_le _⟩ (fun r2 u2 Hq lq hw Y => ?_)
  obtain ⟨rfl, hw⟩ := hw
  rcases hw with ⟨f, q, hf, hq, hxq, rfl, hp, hfo⟩ | ⟨rfl, hfo⟩
  · refine lv_bipush (v := (-5)) hx hb dX1_resident_5 (by decide) ?_
    refine lv_icmp_eq (tgt := 14) hx hb dX1_resident_7 (by decide) (fun c7 => absurd c7 (nI_ne_m5 (show f < 2 ^ 31 by omega))) (fun _ => ?_)
    refine lv_iconst (v := nI (1)) hx hb dX1_resident_10 (by decide) ?_
    refine lv_goto (tgt := 15) hx hb dX1_resident_11 (by decide) ?_
    exact z_ret (v := nI (1)) (u := u) Z Y (rfl) (⟨rfl, (spRes_1 hfo).symm⟩) dX1_resident_15
  · refine lv_bipush (v := (-5)) hx hb dX1_resident_5 (by decide) ?_
    refine lv_icmp_eq (tgt := 14) hx hb dX1_resident_7 (by decide) (fun _ => ?_) (fun c7 => absurd (rfl) c7)
    refine lv_iconst (v := nI (0)) hx hb dX1_resident_14 (by decide) ?_
    exact z_ret (v := nI (0)) (u := u) Z Y (rfl) (⟨rfl, (spRes_0 hfo).symm⟩) dX1_resident_15

set_option maxHeartbeats 4000000 in
set_option maxRecDepth 100000 in
theorem kX1_readWord (l : Launch) (dC : Nat → ClassId) (dI : Nat → Nat → Nat) {g : GE} {N : Nat} {a : AS} {u : CS} (hR : Rep g N a u) (hM : geS g = 8) (x y : Int32) : zMI l yX1_readWord wsX1_readWord ({ frames := 1, cells := 0, slots := 0, locals := 21 }) dC dI 1 g u [.int (x), .int (y)] (fun r u1 => u = u1 ∧ r = spReadW g a x y) := by
  refine zMI_of (cc := cX1_readWord) (maxL := 3) (ret := (some .int)) (by decide) rfl (Nat.le_of_ble_eq_true rfl) ?_
  intro p e s m below meth c A ls Z Y hl
  have hin : ∀ w ∈ wsX10, w ∈ wsX1_readWord := fun w h => List.mem_cons_of_mem _ (List.mem_append_right _ h)
  obtain ⟨hx, hb, hml, hown, hts, hr, hlk⟩ := id Z
  have L13 := hts (.fieldLink RX1 13 "FramePoolModel" "memory" "[I") (by decide +kernel)
  have L36 := hts (.fieldLink RX1 36 "FramePoolModel" "words" "I") (by decide +kernel)
  have hl : lv_has ls 3 [(0, .ref (ga0 g)), (1, .int (x)), (2, .int (y))] := hl
  have hg := hR.1
  have hN := hR.2.1
  obtain ⟨b1, b2, b3, b4, b5, b6, b7⟩ := gokB hg
  obtain ⟨r3, r4, r5, r6, r7, r8, r9, r10, r11⟩ := id hR.2.2.1
  obtain ⟨i1, i2, i3, i4, i5⟩ := id hR.2.2.2
  refine lv_aload_n hx hb dX1_readWord_0 rfl (lv_at hl 0 rfl) ?_
  refine lv_iload_n hx hb dX1_readWord_1 rfl (lv_at hl 1 rfl) ?_
  refine z_callI (rest := []) Z Y rfl (kX1_isPinned l dC dI hR x) (cwV 1 hts gX1_readWord_X1_isPinned rfl rfl rfl (by decide +kernel) ⟨Nat.le_of_ble_eq_true rfl, Nat.le_of_ble_eq_true rfl⟩) rfl hl.1 rfl (Nat.le_of_ble_eq_true rfl) dX1_readWord_2 ⟨Nat.zero_le _, Nat.zero_le _⟩ (fun r2 u2 Hq lq hw Y => ?_)
  obtain ⟨rfl, hw⟩ := hw
  rcases hw with ⟨rfl, hw2⟩ | ⟨rfl, hw2⟩
  · refine lv_if_eq (tgt := 20) hx hb dX1_readWord_5 (by decide) (fun c5 => absurd c5 (by decide)) (fun _ => ?_)
    refine lv_iload_n hx hb dX1_readWord_8 rfl (lv_at hl 2 rfl) ?_
    refine lv_if_lt (tgt := 20) hx hb dX1_readWord_9 (by decide) (fun c9 => ?_) (fun c9 => ?_)
    · refine lv_iconst (v := nI (0)) hx hb dX1_readWord_20 (by decide) ?_
      refine lv_goto (tgt := 35) hx hb dX1_readWord_21 (by decide) ?_
      exact z_ret (v := nI (0)) (u := u) Z Y (rfl) (⟨rfl, (spReadW_f (fun q => not_in_neg c9 q.2)).symm⟩) dX1_readWord_35
    · refine lv_iload_n hx hb dX1_readWord_12 rfl (lv_at hl 2 rfl) ?_
      refine lv_aload_n hx hb dX1_readWord_13 rfl (lv_at hl 0 rfl) ?_
      refine z_get (T := TX1) (v := .int (nI (geW g))) Z hin rfl Y 2 (by decide) L36 rfl rfl dX1_readWord_14 ?_
      refine lv_icmp_lt (tgt := 24) hx hb dX1_readWord_17 (by decide) (fun c17 => ?_) (fun c17 => ?_)
      · obtain ⟨hv2, hw0⟩ := hw2
        obtain ⟨k, hk, rfl⟩ := vp_in_of hv2 b1
        rw [nI_clamp (show k < 2 ^ 31 by omega)] at hw0
        have hwj := (in_iff b3).mpr ⟨i_le_of c9, c17⟩
        obtain ⟨j, hj, rfl⟩ := vp_in_of hwj b3
        refine lv_aload_n hx hb dX1_readWord_24 rfl (lv_at hl 0 rfl) ?_
        refine z_get (T := TX1) (v := .ref (ga4 g)) Z hin rfl Y 4 (by decide) L13 rfl rfl dX1_readWord_25 ?_
        refine lv_bipush (v := nI (8)) hx hb dX1_readWord_28 (by decide) ?_
        refine lv_iload_n hx hb dX1_readWord_30 rfl (lv_at hl 1 rfl) ?_
        refine lv_imul hx hb dX1_readWord_31 ?_
        refine z_top (nI (k * geS g)) (m8 hM) ?_
        refine lv_iload_n hx hb dX1_readWord_32 rfl (lv_at hl 2 rfl) ?_
        refine lv_iadd hx hb dX1_readWord_33 ?_
        refine z_top (nI ((k * geS g) + (j))) (nI_add (k * geS g) (j)) ?_
        refine z_ld4 Z Y ((k * geS g) + (j)) (rfl) (lt4 hg hk hj rfl) (by omega) dX1_readWord_34 ?_
        refine z_top (amm a k j) (rd4 hR hk hj rfl) ?_
        exact z_ret (v := amm a k j) (u := u) Z Y (rfl) (⟨rfl, (spReadW_t (show k < 2 ^ 31 by omega) (show j < 2 ^ 31 by omega) hv2 hw0 hwj).symm⟩) dX1_readWord_35
      · refine lv_iconst (v := nI (0)) hx hb dX1_readWord_20 (by decide) ?_
        refine lv_goto (tgt := 35) hx hb dX1_readWord_21 (by decide) ?_
        exact z_ret (v := nI (0)) (u := u) Z Y (rfl) (⟨rfl, (spReadW_f (fun q => not_in_ge b3 (i_le_of c17) q.2)).symm⟩) dX1_readWord_35
  · refine lv_if_eq (tgt := 20) hx hb dX1_readWord_5 (by decide) (fun _ => ?_) (fun c5 => absurd (by decide) c5)
    refine lv_iconst (v := nI (0)) hx hb dX1_readWord_20 (by decide) ?_
    refine lv_goto (tgt := 35) hx hb dX1_readWord_21 (by decide) ?_
    exact z_ret (v := nI (0)) (u := u) Z Y (rfl) (⟨rfl, (spReadW_f (fun q => hw2 q.1)).symm⟩) dX1_readWord_35

set_option maxHeartbeats 4000000 in
set_option maxRecDepth 100000 in
theorem kX1_diskWord (l : Launch) (dC : Nat → ClassId) (dI : Nat → Nat → Nat) {g : GE} {N : Nat} {a : AS} {u : CS} (hR : Rep g N a u) (hM : geS g = 8) (x y : Int32) : zMI l yX1_diskWord wsX1_diskWord ({ frames := 1, cells := 0, slots := 0, locals := 21 }) dC dI 1 g u [.int (x), .int (y)] (fun r u1 => u = u1 ∧ r = spDiskW g a x y) := by
  refine zMI_of (cc := cX1_diskWord) (maxL := 3) (ret := (some .int)) (by decide) rfl (Nat.le_of_ble_eq_true rfl) ?_
  intro p e s m below meth c A ls Z Y hl
  have hin : ∀ w ∈ wsX10, w ∈ wsX1_diskWord := fun w h => List.mem_cons_of_mem _ (List.mem_append_right _ h)
  obtain ⟨hx, hb, hml, hown, hts, hr, hlk⟩ := id Z
  have L7 := hts (.fieldLink RX1 7 "FramePoolModel" "disk" "[I") (by decide +kernel)
  have L36 := hts (.fieldLink RX1 36 "FramePoolModel" "words" "I") (by decide +kernel)
  have hl : lv_has ls 3 [(0, .ref (ga0 g)), (1, .int (x)), (2, .int (y))] := hl
  have hg := hR.1
  have hN := hR.2.1
  obtain ⟨b1, b2, b3, b4, b5, b6, b7⟩ := gokB hg
  obtain ⟨r3, r4, r5, r6, r7, r8, r9, r10, r11⟩ := id hR.2.2.1
  obtain ⟨i1, i2, i3, i4, i5⟩ := id hR.2.2.2
  refine lv_aload_n hx hb dX1_diskWord_0 rfl (lv_at hl 0 rfl) ?_
  refine lv_iload_n hx hb dX1_diskWord_1 rfl (lv_at hl 1 rfl) ?_
  refine z_callI (rest := []) Z Y rfl (kX1_isPage l dC dI hg u x) (cwV 1 hts gX1_diskWord_X1_isPage rfl rfl rfl (by decide +kernel) ⟨Nat.le_of_ble_eq_true rfl, Nat.le_of_ble_eq_true rfl⟩) rfl hl.1 rfl (Nat.le_of_ble_eq_true rfl) dX1_diskWord_2 ⟨Nat.zero_le _, Nat.zero_le _⟩ (fun r2 u2 Hq lq hw Y => ?_)
  obtain ⟨rfl, hw⟩ := hw
  rcases hw with ⟨rfl, hw2⟩ | ⟨rfl, hw2⟩
  · refine lv_if_eq (tgt := 20) hx hb dX1_diskWord_5 (by decide) (fun c5 => absurd c5 (by decide)) (fun _ => ?_)
    refine lv_iload_n hx hb dX1_diskWord_8 rfl (lv_at hl 2 rfl) ?_
    refine lv_if_lt (tgt := 20) hx hb dX1_diskWord_9 (by decide) (fun c9 => ?_) (fun c9 => ?_)
    · refine lv_iconst (v := nI (0)) hx hb dX1_diskWord_20 (by decide) ?_
      refine lv_goto (tgt := 35) hx hb dX1_diskWord_21 (by decide) ?_
      exact z_ret (v := nI (0)) (u := u) Z Y (rfl) (⟨rfl, (spDiskW_f (fun q => not_in_neg c9 q.2)).symm⟩) dX1_diskWord_35
    · refine lv_iload_n hx hb dX1_diskWord_12 rfl (lv_at hl 2 rfl) ?_
      refine lv_aload_n hx hb dX1_diskWord_13 rfl (lv_at hl 0 rfl) ?_
      refine z_get (T := TX1) (v := .int (nI (geW g))) Z hin rfl Y 2 (by decide) L36 rfl rfl dX1_diskWord_14 ?_
      refine lv_icmp_lt (tgt := 24) hx hb dX1_diskWord_17 (by decide) (fun c17 => ?_) (fun c17 => ?_)
      · obtain ⟨k, hk, rfl⟩ := vp_in_of hw2 b2
        have hwj := (in_iff b3).mpr ⟨i_le_of c9, c17⟩
        obtain ⟨j, hj, rfl⟩ := vp_in_of hwj b3
        refine lv_aload_n hx hb dX1_diskWord_24 rfl (lv_at hl 0 rfl) ?_
        refine z_get (T := TX1) (v := .ref (ga3 g)) Z hin rfl Y 3 (by decide) L7 rfl rfl dX1_diskWord_25 ?_
        refine lv_bipush (v := nI (8)) hx hb dX1_diskWord_28 (by decide) ?_
        refine lv_iload_n hx hb dX1_diskWord_30 rfl (lv_at hl 1 rfl) ?_
        refine lv_imul hx hb dX1_diskWord_31 ?_
        refine z_top (nI (k * geS g)) (m8 hM) ?_
        refine lv_iload_n hx hb dX1_diskWord_32 rfl (lv_at hl 2 rfl) ?_
        refine lv_iadd hx hb dX1_diskWord_33 ?_
        refine z_top (nI ((k * geS g) + (j))) (nI_add (k * geS g) (j)) ?_
        refine z_ld3 Z Y ((k * geS g) + (j)) (rfl) (lt3 hg hk hj rfl) (by omega) dX1_diskWord_34 ?_
        refine z_top (adk a k j) (rd3 hR hk hj rfl) ?_
        exact z_ret (v := adk a k j) (u := u) Z Y (rfl) (⟨rfl, (spDiskW_t (show k < 2 ^ 31 by omega) (show j < 2 ^ 31 by omega) hw2 hwj).symm⟩) dX1_diskWord_35
      · refine lv_iconst (v := nI (0)) hx hb dX1_diskWord_20 (by decide) ?_
        refine lv_goto (tgt := 35) hx hb dX1_diskWord_21 (by decide) ?_
        exact z_ret (v := nI (0)) (u := u) Z Y (rfl) (⟨rfl, (spDiskW_f (fun q => not_in_ge b3 (i_le_of c17) q.2)).symm⟩) dX1_diskWord_35
  · refine lv_if_eq (tgt := 20) hx hb dX1_diskWord_5 (by decide) (fun _ => ?_) (fun c5 => absurd (by decide) c5)
    refine lv_iconst (v := nI (0)) hx hb dX1_diskWord_20 (by decide) ?_
    refine lv_goto (tgt := 35) hx hb dX1_diskWord_21 (by decide) ?_
    exact z_ret (v := nI (0)) (u := u) Z Y (rfl) (⟨rfl, (spDiskW_f (fun q => hw2 q.1)).symm⟩) dX1_diskWord_35

set_option maxHeartbeats 4000000 in
set_option maxRecDepth 100000 in
theorem kX1_told (l : Launch) (dC : Nat → ClassId) (dI : Nat → Nat → Nat) {g : GE} {N : Nat} {a : AS} {u : CS} (hR : Rep g N a u) (x y : Int32) : zMI l yX1_told wsX1_told ({ frames := 0, cells := 0, slots := 0, locals := 0 }) dC dI 1 g u [.int (x), .int (y)] (fun r u1 => u = u1 ∧ r = spTold g a x y) := by
  refine zMI_of (cc := cX1_told) (maxL := 3) (ret := (some .int)) (by decide) rfl (Nat.le_of_ble_eq_true rfl) ?_
  intro p e s m below meth c A ls Z Y hl
  have hin : ∀ w ∈ wsX10, w ∈ wsX1_told := fun w h => List.mem_cons_of_mem _ (List.mem_append_right _ h)
  obtain ⟨hx, hb, hml, hown, hts, hr, hlk⟩ := id Z
  have L16 := hts (.fieldLink RX1 16 "FramePoolModel" "page" "[I") (by decide +kernel)
  have L19 := hts (.fieldLink RX1 19 "FramePoolModel" "pins" "[I") (by decide +kernel)
  have L22 := hts (.fieldLink RX1 22 "FramePoolModel" "dirty" "[Z") (by decide +kernel)
  have L26 := hts (.fieldLink RX1 26 "FramePoolModel" "mark" "[Z") (by decide +kernel)
  have L29 := hts (.fieldLink RX1 29 "FramePoolModel" "frames" "I") (by decide +kernel)
  have hl : lv_has ls 3 [(0, .ref (ga0 g)), (1, .int (x)), (2, .int (y))] := hl
  have hg := hR.1
  have hN := hR.2.1
  obtain ⟨b1, b2, b3, b4, b5, b6, b7⟩ := gokB hg
  obtain ⟨r3, r4, r5, r6, r7, r8, r9, r10, r11⟩ := id hR.2.2.1
  obtain ⟨i1, i2, i3, i4, i5⟩ := id hR.2.2.2
  refine lv_iload_n hx hb dX1_told_0 rfl (lv_at hl 1 rfl) ?_
  refine lv_if_lt (tgt := 12) hx hb dX1_told_1 (by decide) (fun c1 => ?_) (fun c1 => ?_)
  · refine lv_bipush (v := (-5)) hx hb dX1_told_12 (by decide) ?_
    exact z_ret (v := (-5)) (u := u) Z Y (rfl) (⟨rfl, (spTold_f (not_in_neg c1)).symm⟩) dX1_told_14
  · refine lv_iload_n hx hb dX1_told_4 rfl (lv_at hl 1 rfl) ?_
    refine lv_aload_n hx hb dX1_told_5 rfl (lv_at hl 0 rfl) ?_
    refine z_get (T := TX1) (v := .int (nI (geF g))) Z hin rfl Y 0 (by decide) L29 rfl rfl dX1_told_6 ?_
    refine lv_icmp_lt (tgt := 15) hx hb dX1_told_9 (by decide) (fun c9 => ?_) (fun c9 => ?_)
    · have hwk := (in_iff b1).mpr ⟨i_le_of c1, c9⟩
      obtain ⟨k, hk, rfl⟩ := vp_in_of hwk b1
      have hT := fun w => spTold_t (a := a) (w := w) (show k < 2 ^ 31 by omega) hwk
      refine lv_iload_n hx hb dX1_told_15 rfl (lv_at hl 2 rfl) ?_
      refine lv_if_ne (tgt := 28) hx hb dX1_told_16 (by decide) (fun c16 => ?_) (fun c16 => ?_)
      · refine lv_iload_n hx hb dX1_told_28 rfl (lv_at hl 2 rfl) ?_
        refine lv_iconst (v := nI (1)) hx hb dX1_told_29 (by decide) ?_
        refine lv_icmp_ne (tgt := 42) hx hb dX1_told_30 (by decide) (fun c30 => ?_) (fun c30 => ?_)
        · refine lv_iload_n hx hb dX1_told_42 rfl (lv_at hl 2 rfl) ?_
          refine lv_iconst (v := nI (2)) hx hb dX1_told_43 (by decide) ?_
          refine lv_icmp_ne (tgt := 64) hx hb dX1_told_44 (by decide) (fun c44 => ?_) (fun c44 => ?_)
          · refine lv_iload_n hx hb dX1_told_64 rfl (lv_at hl 2 rfl) ?_
            refine lv_iconst (v := nI (3)) hx hb dX1_told_65 (by decide) ?_
            refine lv_icmp_ne (tgt := 86) hx hb dX1_told_66 (by decide) (fun c66 => ?_) (fun c66 => ?_)
            · refine lv_bipush (v := (-5)) hx hb dX1_told_86 (by decide) ?_
              exact z_ret (v := (-5)) (u := u) Z Y (rfl) (⟨rfl, by rw [hT, if_neg (fun z => c16 (z.trans nI_0)), if_neg c30, if_neg c44, if_neg c66]⟩) dX1_told_88
            · refine lv_aload_n hx hb dX1_told_69 rfl (lv_at hl 0 rfl) ?_
              refine z_get (T := TX1) (v := .ref (ga8 g)) Z hin rfl Y 8 (by decide) L26 rfl rfl dX1_told_70 ?_
              refine lv_iload_n hx hb dX1_told_73 rfl (lv_at hl 1 rfl) ?_
              refine z_ld8 Z Y (k) (rfl) (by omega) (by omega) dX1_told_74 ?_
              refine z_top (amk a k) (r8 k hk) ?_
              refine lv_if_eq (tgt := 82) hx hb dX1_told_75 (by decide) (fun c75 => ?_) (fun c75 => ?_)
              · refine lv_iconst (v := nI (0)) hx hb dX1_told_82 (by decide) ?_
                refine lv_goto (tgt := 88) hx hb dX1_told_83 (by decide) ?_
                exact z_ret (v := nI (0)) (u := u) Z Y (rfl) (⟨rfl, by rw [hT, if_neg (fun z => c16 (z.trans nI_0)), if_neg c30, if_neg c44, if_pos c66, if_pos c75]⟩) dX1_told_88
              · refine lv_iconst (v := nI (1)) hx hb dX1_told_78 (by decide) ?_
                refine lv_goto (tgt := 88) hx hb dX1_told_79 (by decide) ?_
                exact z_ret (v := nI (1)) (u := u) Z Y (rfl) (⟨rfl, by rw [hT, if_neg (fun z => c16 (z.trans nI_0)), if_neg c30, if_neg c44, if_pos c66, if_neg c75]⟩) dX1_told_88
          · refine lv_aload_n hx hb dX1_told_47 rfl (lv_at hl 0 rfl) ?_
            refine z_get (T := TX1) (v := .ref (ga7 g)) Z hin rfl Y 7 (by decide) L22 rfl rfl dX1_told_48 ?_
            refine lv_iload_n hx hb dX1_told_51 rfl (lv_at hl 1 rfl) ?_
            refine z_ld7 Z Y (k) (rfl) (by omega) (by omega) dX1_told_52 ?_
            refine z_top (adt a k) (r7 k hk) ?_
            refine lv_if_eq (tgt := 60) hx hb dX1_told_53 (by decide) (fun c53 => ?_) (fun c53 => ?_)
            · refine lv_iconst (v := nI (0)) hx hb dX1_told_60 (by decide) ?_
              refine lv_goto (tgt := 88) hx hb dX1_told_61 (by decide) ?_
              exact z_ret (v := nI (0)) (u := u) Z Y (rfl) (⟨rfl, by rw [hT, if_neg (fun z => c16 (z.trans nI_0)), if_neg c30, if_pos c44, if_pos c53]⟩) dX1_told_88
            · refine lv_iconst (v := nI (1)) hx hb dX1_told_56 (by decide) ?_
              refine lv_goto (tgt := 88) hx hb dX1_told_57 (by decide) ?_
              exact z_ret (v := nI (1)) (u := u) Z Y (rfl) (⟨rfl, by rw [hT, if_neg (fun z => c16 (z.trans nI_0)), if_neg c30, if_pos c44, if_neg c53]⟩) dX1_told_88
        · refine lv_aload_n hx hb dX1_told_33 rfl (lv_at hl 0 rfl) ?_
          refine z_get (T := TX1) (v := .ref (ga6 g)) Z hin rfl Y 6 (by decide) L19 rfl rfl dX1_told_34 ?_
          refine lv_iload_n hx hb dX1_told_37 rfl (lv_at hl 1 rfl) ?_
          refine z_ld6 Z Y (k) (rfl) (by omega) (by omega) dX1_told_38 ?_
          refine z_top (nI (apn a k)) (r6 k hk) ?_
          refine lv_goto (tgt := 88) hx hb dX1_told_39 (by decide) ?_
          exact z_ret (v := nI (apn a k)) (u := u) Z Y (rfl) (⟨rfl, by rw [hT, if_neg (fun z => c16 (z.trans nI_0)), if_pos c30]⟩) dX1_told_88
      · refine lv_aload_n hx hb dX1_told_19 rfl (lv_at hl 0 rfl) ?_
        refine z_get (T := TX1) (v := .ref (ga5 g)) Z hin rfl Y 5 (by decide) L16 rfl rfl dX1_told_20 ?_
        refine lv_iload_n hx hb dX1_told_23 rfl (lv_at hl 1 rfl) ?_
        refine z_ld5 Z Y (k) (rfl) (by omega) (by omega) dX1_told_24 ?_
        refine z_top (apg a k) (r5 k hk) ?_
        refine lv_goto (tgt := 88) hx hb dX1_told_25 (by decide) ?_
        exact z_ret (v := apg a k) (u := u) Z Y (rfl) (⟨rfl, by rw [hT, if_pos (c16.trans nI_0.symm)]⟩) dX1_told_88
    · refine lv_bipush (v := (-5)) hx hb dX1_told_12 (by decide) ?_
      exact z_ret (v := (-5)) (u := u) Z Y (rfl) (⟨rfl, (spTold_f (not_in_ge b1 (i_le_of c9))).symm⟩) dX1_told_14
