/-! ===== FramePoolModel: the methods that write ===== -/
set_option maxHeartbeats 4000000 in
set_option maxRecDepth 100000 in
theorem kX1_empty (l : Launch) (dC : Nat → ClassId) (dI : Nat → Nat → Nat) {g : GE} (hg : gok g) (u : CS) {f : Nat} (hf : f < gn5 g) : zMV l yX1_empty wsX1_empty ({ frames := 0, cells := 0, slots := 0, locals := 0 }) dC dI 1 g u [.int (nI (f))] (fun u1 => (cs3 u, cs4 u, upd (cs5 u) f (-1), upd (cs6 u) f (nI 0), upd (cs7 u) f (nI 0), upd (cs8 u) f (nI 0), csh u, csr u, csw u) = u1) := by
  refine zMV_of (cc := cX1_empty) (maxL := 2) (ret := none) (by decide) rfl (Nat.le_of_ble_eq_true rfl) ?_
  intro p e s m below meth c A ls Z Y hl
  have hin : ∀ w ∈ wsX10, w ∈ wsX1_empty := fun w h => List.mem_cons_of_mem _ (List.mem_append_right _ h)
  obtain ⟨hx, hb, hml, hown, hts, hr, hlk⟩ := id Z
  have L16 := hts (.fieldLink RX1 16 "FramePoolModel" "page" "[I") (by decide +kernel)
  have L19 := hts (.fieldLink RX1 19 "FramePoolModel" "pins" "[I") (by decide +kernel)
  have L22 := hts (.fieldLink RX1 22 "FramePoolModel" "dirty" "[Z") (by decide +kernel)
  have L26 := hts (.fieldLink RX1 26 "FramePoolModel" "mark" "[Z") (by decide +kernel)
  have hl : lv_has ls 2 [(0, .ref (ga0 g)), (1, .int (nI (f)))] := hl
  obtain ⟨b1, b2, b3, b4, b5, b6, b7⟩ := gokB hg
  refine lv_aload_n hx hb dX1_empty_0 rfl (lv_at hl 0 rfl) ?_
  refine z_get (T := TX1) (v := .ref (ga5 g)) Z hin rfl Y 5 (by decide) L16 rfl rfl dX1_empty_1 ?_
  refine lv_iload_n hx hb dX1_empty_4 rfl (lv_at hl 1 rfl) ?_
  refine lv_iconst (v := (-1)) hx hb dX1_empty_5 (by decide) ?_
  refine z_st5 (x := (-1)) Z Y (f) (rfl) (by omega) (by omega) dX1_empty_6 (fun Hq lq Y => ?_)
  refine lv_aload_n hx hb dX1_empty_7 rfl (lv_at hl 0 rfl) ?_
  refine z_get (T := TX1) (v := .ref (ga6 g)) Z hin rfl Y 6 (by decide) L19 rfl rfl dX1_empty_8 ?_
  refine lv_iload_n hx hb dX1_empty_11 rfl (lv_at hl 1 rfl) ?_
  refine lv_iconst (v := nI (0)) hx hb dX1_empty_12 (by decide) ?_
  refine z_st6 (x := nI (0)) Z Y (f) (rfl) (by omega) (by omega) dX1_empty_13 (fun Hq lq Y => ?_)
  refine lv_aload_n hx hb dX1_empty_14 rfl (lv_at hl 0 rfl) ?_
  refine z_get (T := TX1) (v := .ref (ga7 g)) Z hin rfl Y 7 (by decide) L22 rfl rfl dX1_empty_15 ?_
  refine lv_iload_n hx hb dX1_empty_18 rfl (lv_at hl 1 rfl) ?_
  refine lv_iconst (v := nI (0)) hx hb dX1_empty_19 (by decide) ?_
  refine z_st7 (x := nI (0)) Z Y (f) (rfl) (by omega) (by omega) (by decide) dX1_empty_20 (fun Hq lq Y => ?_)
  refine lv_aload_n hx hb dX1_empty_21 rfl (lv_at hl 0 rfl) ?_
  refine z_get (T := TX1) (v := .ref (ga8 g)) Z hin rfl Y 8 (by decide) L26 rfl rfl dX1_empty_22 ?_
  refine lv_iload_n hx hb dX1_empty_25 rfl (lv_at hl 1 rfl) ?_
  refine lv_iconst (v := nI (0)) hx hb dX1_empty_26 (by decide) ?_
  refine z_st8 (x := nI (0)) Z Y (f) (rfl) (by omega) (by omega) (by decide) dX1_empty_27 (fun Hq lq Y => ?_)
  exact z_vret (u := ps8 (ps7 (ps6 (ps5 (u) (upd (cs5 (u)) (f) ((-1)))) (upd (cs6 (ps5 (u) (upd (cs5 (u)) (f) ((-1))))) (f) (nI (0)))) (upd (cs7 (ps6 (ps5 (u) (upd (cs5 (u)) (f) ((-1)))) (upd (cs6 (ps5 (u) (upd (cs5 (u)) (f) ((-1))))) (f) (nI (0))))) (f) (nI (0)))) (upd (cs8 (ps7 (ps6 (ps5 (u) (upd (cs5 (u)) (f) ((-1)))) (upd (cs6 (ps5 (u) (upd (cs5 (u)) (f) ((-1))))) (f) (nI (0)))) (upd (cs7 (ps6 (ps5 (u) (upd (cs5 (u)) (f) ((-1)))) (upd (cs6 (ps5 (u) (upd (cs5 (u)) (f) ((-1))))) (f) (nI (0))))) (f) (nI (0))))) (f) (nI (0)))) Z Y (rfl) dX1_empty_28

set_option maxHeartbeats 4000000 in
set_option maxRecDepth 100000 in
theorem kX1_store (l : Launch) (dC : Nat → ClassId) (dI : Nat → Nat → Nat) {g : GE} {N : Nat} {a : AS} {u : CS} (hR : Rep g N a u) (hM : geS g = 8) {f q : Nat} (hf : f < geF g) (hq : q < geP g) (hp : apg a f = nI q) : zMV l yX1_store wsX1_store ({ frames := 0, cells := 0, slots := 0, locals := 0 }) dC dI 1 g u [.int (nI (f))] (fun u1 => Rep g N (oStore f q a) u1) := by
  refine zMV_of (cc := cX1_store) (maxL := 3) (ret := none) (by decide) rfl (Nat.le_of_ble_eq_true rfl) ?_
  intro p e s m below meth c A ls Z Y hl
  have hin : ∀ w ∈ wsX10, w ∈ wsX1_store := fun w h => List.mem_cons_of_mem _ (List.mem_append_right _ h)
  obtain ⟨hx, hb, hml, hown, hts, hr, hlk⟩ := id Z
  have L7 := hts (.fieldLink RX1 7 "FramePoolModel" "disk" "[I") (by decide +kernel)
  have L13 := hts (.fieldLink RX1 13 "FramePoolModel" "memory" "[I") (by decide +kernel)
  have L16 := hts (.fieldLink RX1 16 "FramePoolModel" "page" "[I") (by decide +kernel)
  have L22 := hts (.fieldLink RX1 22 "FramePoolModel" "dirty" "[Z") (by decide +kernel)
  have L36 := hts (.fieldLink RX1 36 "FramePoolModel" "words" "I") (by decide +kernel)
  have L52 := hts (.fieldLink RX1 52 "FramePoolModel" "writes" "I") (by decide +kernel)
  have hl : lv_has ls 3 [(0, .ref (ga0 g)), (1, .int (nI (f)))] := hl
  have hg := hR.1
  have hN := hR.2.1
  obtain ⟨b1, b2, b3, b4, b5, b6, b7⟩ := gokB hg
  obtain ⟨r3, r4, r5, r6, r7, r8, r9, r10, r11⟩ := id hR.2.2.1
  obtain ⟨i1, i2, i3, i4, i5⟩ := id hR.2.2.2
  have loop : ∀ (n k : Nat), k + n = geW g → ∀ (H : Heap) (locs : List Loc), zW dC dI 1 g A s.heap s (ps3 u (va_cpy (cs4 u) (cs3 u) (f * geS g) (q * geS g) k)) H locs → ∀ ls : Array Slot, lv_has ls 3 [(0, .ref (ga0 g)), (1, .int (nI (f))), (2, .int (nI (k)))] → W p l e ({ frames := 0, cells := 0, slots := 0, locals := 0 }) s m (Value.ref (ga0 g) :: [.int (nI (f))]).toArray below meth c H locs 0 0 (zQV below dC dI 1 g A (fun u1 => Rep g N (oStore f q a) u1) (Value.ref (ga0 g) :: [.int (nI (f))]).toArray s) (F0 m 2 ls []) := by
    intro n
    induction n with
    | zero =>
      intro k hkn Hq lq Y ls hl
      obtain rfl : k = geW g := hkn
      refine lv_iload_n hx hb dX1_store_2 rfl (lv_at hl 2 rfl) ?_
      refine lv_aload_n hx hb dX1_store_3 rfl (lv_at hl 0 rfl) ?_
      refine z_get (T := TX1) (v := .int (nI (geW g))) Z hin rfl Y 2 (by decide) L36 rfl rfl dX1_store_4 ?_
      refine lv_icmp_ge (tgt := 43) hx hb dX1_store_7 (by decide) (fun _ => ?_) (fun c7 => absurd ((nI_leI b3 (by omega)).mpr (by omega)) c7)
      refine lv_aload_n hx hb dX1_store_43 rfl (lv_at hl 0 rfl) ?_
      refine z_get (T := TX1) (v := .ref (ga7 g)) Z hin rfl Y 7 (by decide) L22 rfl rfl dX1_store_44 ?_
      refine lv_iload_n hx hb dX1_store_47 rfl (lv_at hl 1 rfl) ?_
      refine lv_iconst (v := nI (0)) hx hb dX1_store_48 (by decide) ?_
      refine z_st7 (x := nI (0)) Z Y (f) (rfl) (by omega) (by omega) (by decide) dX1_store_49 (fun Hq lq Y => ?_)
      refine lv_aload_n hx hb dX1_store_50 rfl (lv_at hl 0 rfl) ?_
      refine lv_dup hx hb dX1_store_51 rfl ?_
      refine z_get (T := TX1) (v := .int (csw (ps7 (ps3 u (va_cpy (cs4 u) (cs3 u) (f * geS g) (q * geS g) (geW g))) (upd (cs7 (ps3 u (va_cpy (cs4 u) (cs3 u) (f * geS g) (q * geS g) (geW g)))) (f) (nI (0)))))) Z hin rfl Y 11 (by decide) L52 rfl rfl dX1_store_52 ?_
      refine lv_iconst (v := nI (1)) hx hb dX1_store_55 (by decide) ?_
      refine lv_iadd hx hb dX1_store_56 ?_
      refine z_putw (T := TX1) (v := (csw (ps7 (ps3 u (va_cpy (cs4 u) (cs3 u) (f * geS g) (q * geS g) (geW g))) (upd (cs7 (ps3 u (va_cpy (cs4 u) (cs3 u) (f * geS g) (q * geS g) (geW g)))) (f) (nI (0)))) + nI (1))) Z hin tyX1_ok nmX1 rfl Y L52 rfl rfl rfl dX1_store_57 (fun Hq lq Y => ?_)
      exact z_vret (u := psw (ps7 (ps3 u (va_cpy (cs4 u) (cs3 u) (f * geS g) (q * geS g) (geW g))) (upd (cs7 (ps3 u (va_cpy (cs4 u) (cs3 u) (f * geS g) (q * geS g) (geW g)))) (f) (nI (0)))) ((csw (ps7 (ps3 u (va_cpy (cs4 u) (cs3 u) (f * geS g) (q * geS g) (geW g))) (upd (cs7 (ps3 u (va_cpy (cs4 u) (cs3 u) (f * geS g) (q * geS g) (geW g)))) (f) (nI (0)))) + nI (1)))) Z Y (⟨hg, hN, Rp_store q hg hf hR.2.2.1, Iv_store f q hR.2.2.2⟩) dX1_store_60
    | succ n ih =>
      intro k hkn Hq lq Y ls hl
      have hkW : k < geW g := by omega
      have e0 := cpy_step (f := cs4 u) (g := cs3 u) (sp := f * geS g) (dp := q * geS g) (n := k) rfl
      refine lv_iload_n hx hb dX1_store_2 rfl (lv_at hl 2 rfl) ?_
      refine lv_aload_n hx hb dX1_store_3 rfl (lv_at hl 0 rfl) ?_
      refine z_get (T := TX1) (v := .int (nI (geW g))) Z hin rfl Y 2 (by decide) L36 rfl rfl dX1_store_4 ?_
      refine lv_icmp_ge (tgt := 43) hx hb dX1_store_7 (by decide) (fun c7 => absurd c7 (fun z => absurd ((nI_leI b3 (by omega)).mp z) (by omega))) (fun _ => ?_)
      refine lv_aload_n hx hb dX1_store_10 rfl (lv_at hl 0 rfl) ?_
      refine z_get (T := TX1) (v := .ref (ga3 g)) Z hin rfl Y 3 (by decide) L7 rfl rfl dX1_store_11 ?_
      refine lv_bipush (v := nI (8)) hx hb dX1_store_14 (by decide) ?_
      refine lv_aload_n hx hb dX1_store_16 rfl (lv_at hl 0 rfl) ?_
      refine z_get (T := TX1) (v := .ref (ga5 g)) Z hin rfl Y 5 (by decide) L16 rfl rfl dX1_store_17 ?_
      refine lv_iload_n hx hb dX1_store_20 rfl (lv_at hl 1 rfl) ?_
      refine z_ld5 Z Y (f) (rfl) (by omega) (by omega) dX1_store_21 ?_
      refine z_top (nI (q)) ((r5 f hf).trans hp) ?_
      refine lv_imul hx hb dX1_store_22 ?_
      refine z_top (nI (q * geS g)) (m8 hM) ?_
      refine lv_iload_n hx hb dX1_store_23 rfl (lv_at hl 2 rfl) ?_
      refine lv_iadd hx hb dX1_store_24 ?_
      refine z_top (nI ((q * geS g) + (k))) (nI_add (q * geS g) (k)) ?_
      refine lv_aload_n hx hb dX1_store_25 rfl (lv_at hl 0 rfl) ?_
      refine z_get (T := TX1) (v := .ref (ga4 g)) Z hin rfl Y 4 (by decide) L13 rfl rfl dX1_store_26 ?_
      refine lv_bipush (v := nI (8)) hx hb dX1_store_29 (by decide) ?_
      refine lv_iload_n hx hb dX1_store_31 rfl (lv_at hl 1 rfl) ?_
      refine lv_imul hx hb dX1_store_32 ?_
      refine z_top (nI (f * geS g)) (m8 hM) ?_
      refine lv_iload_n hx hb dX1_store_33 rfl (lv_at hl 2 rfl) ?_
      refine lv_iadd hx hb dX1_store_34 ?_
      refine z_top (nI ((f * geS g) + (k))) (nI_add (f * geS g) (k)) ?_
      refine z_ld4 Z Y ((f * geS g) + (k)) (rfl) (lt4 hg hf hkW rfl) (by omega) dX1_store_35 ?_
      refine z_st3 (x := cs4 (ps3 u (va_cpy (cs4 u) (cs3 u) (f * geS g) (q * geS g) k)) ((f * geS g) + (k))) Z Y ((q * geS g) + (k)) (rfl) (lt3 hg hq hkW rfl) (by omega) dX1_store_36 (fun Hq lq Y => ?_)
      refine lv_iinc (v := nI (k + 1)) (lv' := [(2, .int (nI (k + 1))), (0, .ref (ga0 g)), (1, .int (nI (f)))]) hx hb dX1_store_37 hl (k := 2) rfl (nI_add (k) 1) (by decide) rfl (fun ls hl => ?_)
      refine lv_goto (tgt := 2) hx hb dX1_store_40 (by decide) ?_
      exact ih (k + 1) (by omega) _ _ (by rw [← e0]; exact Y) ls (lv_sub hl [1, 2, 0] rfl)
  refine lv_iconst (v := nI (0)) hx hb dX1_store_0 (by decide) ?_
  refine lv_istore_n (lv' := [(2, .int (nI (0))), (0, .ref (ga0 g)), (1, .int (nI (f)))]) hx hb dX1_store_1 rfl hl (by decide) rfl (fun ls hl => ?_)
  exact loop (geW g) 0 (by omega) _ _ (by rw [cpy_0]; exact Y) ls (lv_sub hl [1, 2, 0] rfl)

set_option maxHeartbeats 4000000 in
set_option maxRecDepth 100000 in
theorem kX1_find (l : Launch) (dC : Nat → ClassId) (dI : Nat → Nat → Nat) {g : GE} {N : Nat} {a : AS} {u : CS} (hR : Rep g N a u) (hM : geS g = 8) : zMI l yX1_find wsX1_find ({ frames := 1, cells := 0, slots := 0, locals := 22 }) dC dI 1 g u [] (fun r u1 => r = onI (-5) (spFind g a).2 ∧ Rep g N (spFind g a).1 u1) := by
  refine zMI_of (cc := cX1_find) (maxL := 2) (ret := (some .int)) (by decide) rfl (Nat.le_of_ble_eq_true rfl) ?_
  intro p e s m below meth c A ls Z Y hl
  have hin : ∀ w ∈ wsX10, w ∈ wsX1_find := fun w h => List.mem_cons_of_mem _ (List.mem_append_right _ h)
  obtain ⟨hx, hb, hml, hown, hts, hr, hlk⟩ := id Z
  have L16 := hts (.fieldLink RX1 16 "FramePoolModel" "page" "[I") (by decide +kernel)
  have L19 := hts (.fieldLink RX1 19 "FramePoolModel" "pins" "[I") (by decide +kernel)
  have L22 := hts (.fieldLink RX1 22 "FramePoolModel" "dirty" "[Z") (by decide +kernel)
  have L26 := hts (.fieldLink RX1 26 "FramePoolModel" "mark" "[Z") (by decide +kernel)
  have L29 := hts (.fieldLink RX1 29 "FramePoolModel" "frames" "I") (by decide +kernel)
  have L46 := hts (.fieldLink RX1 46 "FramePoolModel" "at" "I") (by decide +kernel)
  have hl : lv_has ls 2 [(0, .ref (ga0 g))] := hl
  have hg := hR.1
  have hN := hR.2.1
  obtain ⟨b1, b2, b3, b4, b5, b6, b7⟩ := gokB hg
  obtain ⟨r3, r4, r5, r6, r7, r8, r9, r10, r11⟩ := id hR.2.2.1
  obtain ⟨i1, i2, i3, i4, i5⟩ := id hR.2.2.2
  have b8 : geF g ≤ 32 := hg.2.1
  have loop : ∀ (R0 : AS × Option Nat) (f0 : Nat), R0.2 = some f0 → ∀ (n : Nat) (a : AS) (u : CS), Rep g N a u → findN g n a = R0 → ∀ (H : Heap) (locs : List Loc), zW dC dI 1 g A s.heap s (u) H locs → ∀ ls : Array Slot, lv_has ls 2 [(0, .ref (ga0 g))] → W p l e ({ frames := 1, cells := 0, slots := 0, locals := 22 }) s m (Value.ref (ga0 g) :: []).toArray below meth c H locs 0 0 (zQI below dC dI 1 g A (fun r u1 => r = onI (-5) R0.2 ∧ Rep g N R0.1 u1) (Value.ref (ga0 g) :: []).toArray s) (F0 m 14 ls []) := by
    intro R0 f0 hf0 n
    induction n with
    | zero =>
      intro a u hR hF0
      rw [← hF0] at hf0
      cases hf0
    | succ n ih =>
      intro a u hR hF0 Hq lq Y ls hl
      obtain ⟨r3, r4, r5, r6, r7, r8, r9, r10, r11⟩ := id hR.2.2.1
      obtain ⟨i1, i2, i3, i4, i5⟩ := id hR.2.2.2
      have hb6 : apn a (ahd a) < 2 ^ 31 := by have := pn31 hR i1; omega
      refine lv_aload_n hx hb dX1_find_14 rfl (lv_at hl 0 rfl) ?_
      refine z_get (T := TX1) (v := .int (csh (u))) Z hin rfl Y 9 (by decide) L46 rfl rfl dX1_find_15 ?_
      refine z_top (nI (ahd a)) (r9) ?_
      refine lv_istore_n (lv' := [(1, .int (nI (ahd a))), (0, .ref (ga0 g))]) hx hb dX1_find_18 rfl hl (by decide) rfl (fun ls hl => ?_)
      refine lv_aload_n hx hb dX1_find_19 rfl (lv_at hl 1 rfl) ?_
      refine lv_aload_n hx hb dX1_find_20 rfl (lv_at hl 1 rfl) ?_
      refine z_get (T := TX1) (v := .int (csh (u))) Z hin rfl Y 9 (by decide) L46 rfl rfl dX1_find_21 ?_
      refine z_top (nI (ahd a)) (r9) ?_
      refine lv_iconst (v := nI (1)) hx hb dX1_find_24 (by decide) ?_
      refine lv_iadd hx hb dX1_find_25 ?_
      refine z_top (nI ((ahd a) + (1))) (nI_add (ahd a) (1)) ?_
      refine lv_aload_n hx hb dX1_find_26 rfl (lv_at hl 1 rfl) ?_
      refine z_get (T := TX1) (v := .int (nI (geF g))) Z hin rfl Y 0 (by decide) L29 rfl rfl dX1_find_27 ?_
      refine lv_icmp_ne (tgt := 37) hx hb dX1_find_30 (by decide) (fun c30 => ?_) (fun c30 => ?_)
      · refine lv_aload_n hx hb dX1_find_37 rfl (lv_at hl 1 rfl) ?_
        refine z_get (T := TX1) (v := .int (csh (u))) Z hin rfl Y 9 (by decide) L46 rfl rfl dX1_find_38 ?_
        refine z_top (nI (ahd a)) (r9) ?_
        refine lv_iconst (v := nI (1)) hx hb dX1_find_41 (by decide) ?_
        refine lv_iadd hx hb dX1_find_42 ?_
        refine z_top (nI ((ahd a) + (1))) (nI_add (ahd a) (1)) ?_
        refine z_puth (T := TX1) (v := nI ((ahd a) + (1))) Z hin tyX1_ok nmX1 rfl Y L46 rfl rfl rfl dX1_find_43 (fun Hq lq Y => ?_)
        have hnx : nx g (ahd a) = ahd a + 1 := nx_t (by have : ¬ ahd a + 1 = geF g := fun z => c30 ((nI_eq (by omega) b1).mpr z); omega)
        have hR1 : Rep g N (oHand (nx g (ahd a)) a) (psh (u) (nI ((ahd a) + (1)))) := by rw [hnx]; exact ⟨hg, hN, Rp_hand (ahd a + 1) hR.2.2.1, Iv_hand (by have := nx_lt hg (ahd a); omega) hR.2.2.2⟩
        refine lv_aload_n hx hb dX1_find_46 rfl (lv_at hl 1 rfl) ?_
        refine z_get (T := TX1) (v := .ref (ga6 g)) Z hin rfl Y 6 (by decide) L19 rfl rfl dX1_find_47 ?_
        refine lv_iload_n hx hb dX1_find_50 rfl (lv_at hl 0 rfl) ?_
        refine z_ld6 Z Y (ahd a) (rfl) (by omega) (by omega) dX1_find_51 ?_
        refine z_top (nI (apn a (ahd a))) (r6 (ahd a) i1) ?_
        refine lv_if_le (tgt := 58) hx hb dX1_find_52 (by decide) (fun c52 => ?_) (fun c52 => ?_)
        · have h0 : ¬ 0 < apn a (ahd a) := by have := (nI_le0 hb6).mp c52; omega
          refine lv_aload_n hx hb dX1_find_58 rfl (lv_at hl 1 rfl) ?_
          refine z_get (T := TX1) (v := .ref (ga5 g)) Z hin rfl Y 5 (by decide) L16 rfl rfl dX1_find_59 ?_
          refine lv_iload_n hx hb dX1_find_62 rfl (lv_at hl 0 rfl) ?_
          refine z_ld5 Z Y (ahd a) (rfl) (by omega) (by omega) dX1_find_63 ?_
          refine z_top (apg a (ahd a)) (r5 (ahd a) i1) ?_
          refine lv_iconst (v := (-1)) hx hb dX1_find_64 (by decide) ?_
          refine lv_icmp_eq (tgt := 87) hx hb dX1_find_65 (by decide) (fun c65 => ?_) (fun c65 => ?_)
          · refine lv_aload_n hx hb dX1_find_87 rfl (lv_at hl 1 rfl) ?_
            refine z_get (T := TX1) (v := .ref (ga5 g)) Z hin rfl Y 5 (by decide) L16 rfl rfl dX1_find_88 ?_
            refine lv_iload_n hx hb dX1_find_91 rfl (lv_at hl 0 rfl) ?_
            refine z_ld5 Z Y (ahd a) (rfl) (by omega) (by omega) dX1_find_92 ?_
            refine z_top (apg a (ahd a)) (r5 (ahd a) i1) ?_
            refine lv_iconst (v := (-1)) hx hb dX1_find_93 (by decide) ?_
            refine lv_icmp_eq (tgt := 111) hx hb dX1_find_94 (by decide) (fun _ => ?_) (fun c94 => absurd (c65) c94)
            refine lv_aload_n hx hb dX1_find_111 rfl (lv_at hl 1 rfl) ?_
            refine lv_iload_n hx hb dX1_find_112 rfl (lv_at hl 0 rfl) ?_
            refine z_callV (rest := []) Z Y rfl (kX1_empty l dC dI hg (psh (u) (nI ((ahd a) + (1)))) (show ahd a < gn5 g by omega)) (cwV 1 hts gX1_find_X1_empty rfl rfl rfl (by decide +kernel) ⟨Nat.le_of_ble_eq_true rfl, Nat.le_of_ble_eq_true rfl⟩) rfl hl.1 rfl (Nat.le_of_ble_eq_true rfl) dX1_find_113 ⟨Nat.zero_le _, Nat.zero_le _⟩ (fun u113 Hq lq hw Y => ?_)
            subst hw
            refine lv_iload_n hx hb dX1_find_116 rfl (lv_at hl 0 rfl) ?_
            exact z_ret (v := nI (ahd a)) (u := (cs3 (psh (u) (nI ((ahd a) + (1)))), cs4 (psh (u) (nI ((ahd a) + (1)))), upd (cs5 (psh (u) (nI ((ahd a) + (1))))) (ahd a) (-1), upd (cs6 (psh (u) (nI ((ahd a) + (1))))) (ahd a) (nI 0), upd (cs7 (psh (u) (nI ((ahd a) + (1))))) (ahd a) (nI 0), upd (cs8 (psh (u) (nI ((ahd a) + (1))))) (ahd a) (nI 0), csh (psh (u) (nI ((ahd a) + (1)))), csr (psh (u) (nI ((ahd a) + (1)))), csw (psh (u) (nI ((ahd a) + (1)))))) Z Y (rfl) (by rw [← hF0, findN_t (by rw [gw_emp (a := (oHand (nx g (ahd a)) a)) h0 c65]), gw_emp (a := (oHand (nx g (ahd a)) a)) h0 c65]; exact ⟨rfl, ⟨hg, hN, Rp_emptyE hR1.2.2.2 i1 c65 hR1.2.2.1, hR1.2.2.2⟩⟩) dX1_find_117
          · refine lv_aload_n hx hb dX1_find_68 rfl (lv_at hl 1 rfl) ?_
            refine z_get (T := TX1) (v := .ref (ga8 g)) Z hin rfl Y 8 (by decide) L26 rfl rfl dX1_find_69 ?_
            refine lv_iload_n hx hb dX1_find_72 rfl (lv_at hl 0 rfl) ?_
            refine z_ld8 Z Y (ahd a) (rfl) (by omega) (by omega) dX1_find_73 ?_
            refine z_top (amk a (ahd a)) (r8 (ahd a) i1) ?_
            refine lv_if_eq (tgt := 87) hx hb dX1_find_74 (by decide) (fun c74 => ?_) (fun c74 => ?_)
            · refine lv_aload_n hx hb dX1_find_87 rfl (lv_at hl 1 rfl) ?_
              refine z_get (T := TX1) (v := .ref (ga5 g)) Z hin rfl Y 5 (by decide) L16 rfl rfl dX1_find_88 ?_
              refine lv_iload_n hx hb dX1_find_91 rfl (lv_at hl 0 rfl) ?_
              refine z_ld5 Z Y (ahd a) (rfl) (by omega) (by omega) dX1_find_92 ?_
              refine z_top (apg a (ahd a)) (r5 (ahd a) i1) ?_
              refine lv_iconst (v := (-1)) hx hb dX1_find_93 (by decide) ?_
              refine lv_icmp_eq (tgt := 111) hx hb dX1_find_94 (by decide) (fun c94 => absurd c94 (c65)) (fun _ => ?_)
              refine lv_aload_n hx hb dX1_find_97 rfl (lv_at hl 1 rfl) ?_
              refine z_get (T := TX1) (v := .ref (ga7 g)) Z hin rfl Y 7 (by decide) L22 rfl rfl dX1_find_98 ?_
              refine lv_iload_n hx hb dX1_find_101 rfl (lv_at hl 0 rfl) ?_
              refine z_ld7 Z Y (ahd a) (rfl) (by omega) (by omega) dX1_find_102 ?_
              refine z_top (adt a (ahd a)) (r7 (ahd a) i1) ?_
              refine lv_if_eq (tgt := 111) hx hb dX1_find_103 (by decide) (fun c103 => ?_) (fun c103 => ?_)
              · refine lv_aload_n hx hb dX1_find_111 rfl (lv_at hl 1 rfl) ?_
                refine lv_iload_n hx hb dX1_find_112 rfl (lv_at hl 0 rfl) ?_
                refine z_callV (rest := []) Z Y rfl (kX1_empty l dC dI hg (psh (u) (nI ((ahd a) + (1)))) (show ahd a < gn5 g by omega)) (cwV 1 hts gX1_find_X1_empty rfl rfl rfl (by decide +kernel) ⟨Nat.le_of_ble_eq_true rfl, Nat.le_of_ble_eq_true rfl⟩) rfl hl.1 rfl (Nat.le_of_ble_eq_true rfl) dX1_find_113 ⟨Nat.zero_le _, Nat.zero_le _⟩ (fun u113 Hq lq hw Y => ?_)
                subst hw
                refine lv_iload_n hx hb dX1_find_116 rfl (lv_at hl 0 rfl) ?_
                exact z_ret (v := nI (ahd a)) (u := (cs3 (psh (u) (nI ((ahd a) + (1)))), cs4 (psh (u) (nI ((ahd a) + (1)))), upd (cs5 (psh (u) (nI ((ahd a) + (1))))) (ahd a) (-1), upd (cs6 (psh (u) (nI ((ahd a) + (1))))) (ahd a) (nI 0), upd (cs7 (psh (u) (nI ((ahd a) + (1))))) (ahd a) (nI 0), upd (cs8 (psh (u) (nI ((ahd a) + (1))))) (ahd a) (nI 0), csh (psh (u) (nI ((ahd a) + (1)))), csr (psh (u) (nI ((ahd a) + (1)))), csw (psh (u) (nI ((ahd a) + (1)))))) Z Y (rfl) (by rw [← hF0, findN_t (by rw [gw_clean (a := (oHand (nx g (ahd a)) a)) h0 c65 c74 c103]), gw_clean (a := (oHand (nx g (ahd a)) a)) h0 c65 c74 c103]; exact ⟨rfl, ⟨hg, hN, Rp_empty (ahd a) hR1.2.2.1, Iv_empty (ahd a) hR1.2.2.2⟩⟩) dX1_find_117
              · obtain ⟨q, hq, hpq⟩ := dt_pg hR.2.2.2 i1 c103
                refine lv_aload_n hx hb dX1_find_106 rfl (lv_at hl 1 rfl) ?_
                refine lv_iload_n hx hb dX1_find_107 rfl (lv_at hl 0 rfl) ?_
                refine z_callV (rest := []) Z Y rfl (kX1_store l dC dI hR1 hM i1 hq hpq) (cwV 1 hts gX1_find_X1_store rfl rfl rfl (by decide +kernel) ⟨Nat.le_of_ble_eq_true rfl, Nat.le_of_ble_eq_true rfl⟩) rfl hl.1 rfl (Nat.le_of_ble_eq_true rfl) dX1_find_108 ⟨Nat.zero_le _, Nat.zero_le _⟩ (fun u108 Hq lq hw Y => ?_)
                have hR108 := hw
                refine lv_aload_n hx hb dX1_find_111 rfl (lv_at hl 1 rfl) ?_
                refine lv_iload_n hx hb dX1_find_112 rfl (lv_at hl 0 rfl) ?_
                refine z_callV (rest := []) Z Y rfl (kX1_empty l dC dI hg u108 (show ahd a < gn5 g by omega)) (cwV 1 hts gX1_find_X1_empty rfl rfl rfl (by decide +kernel) ⟨Nat.le_of_ble_eq_true rfl, Nat.le_of_ble_eq_true rfl⟩) rfl hl.1 rfl (Nat.le_of_ble_eq_true rfl) dX1_find_113 ⟨Nat.zero_le _, Nat.zero_le _⟩ (fun u113 Hq lq hw Y => ?_)
                subst hw
                refine lv_iload_n hx hb dX1_find_116 rfl (lv_at hl 0 rfl) ?_
                exact z_ret (v := nI (ahd a)) (u := (cs3 u108, cs4 u108, upd (cs5 u108) (ahd a) (-1), upd (cs6 u108) (ahd a) (nI 0), upd (cs7 u108) (ahd a) (nI 0), upd (cs8 u108) (ahd a) (nI 0), csh u108, csr u108, csw u108)) Z Y (rfl) (by rw [← hF0, findN_t (by rw [gw_dirty (a := (oHand (nx g (ahd a)) a)) (show q < 2 ^ 31 by omega) h0 c65 c74 c103 hpq]), gw_dirty (a := (oHand (nx g (ahd a)) a)) (show q < 2 ^ 31 by omega) h0 c65 c74 c103 hpq]; exact ⟨rfl, ⟨hg, hN, Rp_empty (ahd a) hR108.2.2.1, Iv_empty (ahd a) hR108.2.2.2⟩⟩) dX1_find_117
            · refine lv_aload_n hx hb dX1_find_77 rfl (lv_at hl 1 rfl) ?_
              refine z_get (T := TX1) (v := .ref (ga8 g)) Z hin rfl Y 8 (by decide) L26 rfl rfl dX1_find_78 ?_
              refine lv_iload_n hx hb dX1_find_81 rfl (lv_at hl 0 rfl) ?_
              refine lv_iconst (v := nI (0)) hx hb dX1_find_82 (by decide) ?_
              refine z_st8 (x := nI (0)) Z Y (ahd a) (rfl) (by omega) (by omega) (by decide) dX1_find_83 (fun Hq lq Y => ?_)
              refine lv_goto (tgt := 14) hx hb dX1_find_84 (by decide) ?_
              exact ih _ _ (⟨hg, hN, Rp_mark (ahd a) (nI 0) hR1.2.2.1, Iv_mark (fun _ => rfl) hR1.2.2.2⟩) (by rw [← hF0, findN_f (by rw [gw_mk (a := (oHand (nx g (ahd a)) a)) h0 c65 c74]), gw_mk (a := (oHand (nx g (ahd a)) a)) h0 c65 c74]) _ _ Y ls (lv_sub hl [1] rfl)
        · have h0 : 0 < apn a (ahd a) := Nat.pos_of_ne_zero (fun z => c52 ((nI_le0 hb6).mpr z))
          refine lv_goto (tgt := 14) hx hb dX1_find_55 (by decide) ?_
          exact ih _ _ (hR1) (by rw [← hF0, findN_f (by rw [gw_pin (a := (oHand (nx g (ahd a)) a)) h0]), gw_pin (a := (oHand (nx g (ahd a)) a)) h0]) _ _ Y ls (lv_sub hl [1] rfl)
      · refine lv_iconst (v := nI (0)) hx hb dX1_find_33 (by decide) ?_
        refine lv_goto (tgt := 43) hx hb dX1_find_34 (by decide) ?_
        refine z_puth (T := TX1) (v := nI (0)) Z hin tyX1_ok nmX1 rfl Y L46 rfl rfl rfl dX1_find_43 (fun Hq lq Y => ?_)
        have hnx : nx g (ahd a) = 0 := nx_f (by have := (nI_eq (by omega) b1).mp c30; omega)
        have hR1 : Rep g N (oHand (nx g (ahd a)) a) (psh (u) (nI (0))) := by rw [hnx]; exact ⟨hg, hN, Rp_hand 0 hR.2.2.1, Iv_hand (by omega) hR.2.2.2⟩
        refine lv_aload_n hx hb dX1_find_46 rfl (lv_at hl 1 rfl) ?_
        refine z_get (T := TX1) (v := .ref (ga6 g)) Z hin rfl Y 6 (by decide) L19 rfl rfl dX1_find_47 ?_
        refine lv_iload_n hx hb dX1_find_50 rfl (lv_at hl 0 rfl) ?_
        refine z_ld6 Z Y (ahd a) (rfl) (by omega) (by omega) dX1_find_51 ?_
        refine z_top (nI (apn a (ahd a))) (r6 (ahd a) i1) ?_
        refine lv_if_le (tgt := 58) hx hb dX1_find_52 (by decide) (fun c52 => ?_) (fun c52 => ?_)
        · have h0 : ¬ 0 < apn a (ahd a) := by have := (nI_le0 hb6).mp c52; omega
          refine lv_aload_n hx hb dX1_find_58 rfl (lv_at hl 1 rfl) ?_
          refine z_get (T := TX1) (v := .ref (ga5 g)) Z hin rfl Y 5 (by decide) L16 rfl rfl dX1_find_59 ?_
          refine lv_iload_n hx hb dX1_find_62 rfl (lv_at hl 0 rfl) ?_
          refine z_ld5 Z Y (ahd a) (rfl) (by omega) (by omega) dX1_find_63 ?_
          refine z_top (apg a (ahd a)) (r5 (ahd a) i1) ?_
          refine lv_iconst (v := (-1)) hx hb dX1_find_64 (by decide) ?_
          refine lv_icmp_eq (tgt := 87) hx hb dX1_find_65 (by decide) (fun c65 => ?_) (fun c65 => ?_)
          · refine lv_aload_n hx hb dX1_find_87 rfl (lv_at hl 1 rfl) ?_
            refine z_get (T := TX1) (v := .ref (ga5 g)) Z hin rfl Y 5 (by decide) L16 rfl rfl dX1_find_88 ?_
            refine lv_iload_n hx hb dX1_find_91 rfl (lv_at hl 0 rfl) ?_
            refine z_ld5 Z Y (ahd a) (rfl) (by omega) (by omega) dX1_find_92 ?_
            refine z_top (apg a (ahd a)) (r5 (ahd a) i1) ?_
            refine lv_iconst (v := (-1)) hx hb dX1_find_93 (by decide) ?_
            refine lv_icmp_eq (tgt := 111) hx hb dX1_find_94 (by decide) (fun _ => ?_) (fun c94 => absurd (c65) c94)
            refine lv_aload_n hx hb dX1_find_111 rfl (lv_at hl 1 rfl) ?_
            refine lv_iload_n hx hb dX1_find_112 rfl (lv_at hl 0 rfl) ?_
            refine z_callV (rest := []) Z Y rfl (kX1_empty l dC dI hg (psh (u) (nI (0))) (show ahd a < gn5 g by omega)) (cwV 1 hts gX1_find_X1_empty rfl rfl rfl (by decide +kernel) ⟨Nat.le_of_ble_eq_true rfl, Nat.le_of_ble_eq_true rfl⟩) rfl hl.1 rfl (Nat.le_of_ble_eq_true rfl) dX1_find_113 ⟨Nat.zero_le _, Nat.zero_le _⟩ (fun u113 Hq lq hw Y => ?_)
            subst hw
            refine lv_iload_n hx hb dX1_find_116 rfl (lv_at hl 0 rfl) ?_
            exact z_ret (v := nI (ahd a)) (u := (cs3 (psh (u) (nI (0))), cs4 (psh (u) (nI (0))), upd (cs5 (psh (u) (nI (0)))) (ahd a) (-1), upd (cs6 (psh (u) (nI (0)))) (ahd a) (nI 0), upd (cs7 (psh (u) (nI (0)))) (ahd a) (nI 0), upd (cs8 (psh (u) (nI (0)))) (ahd a) (nI 0), csh (psh (u) (nI (0))), csr (psh (u) (nI (0))), csw (psh (u) (nI (0))))) Z Y (rfl) (by rw [← hF0, findN_t (by rw [gw_emp (a := (oHand (nx g (ahd a)) a)) h0 c65]), gw_emp (a := (oHand (nx g (ahd a)) a)) h0 c65]; exact ⟨rfl, ⟨hg, hN, Rp_emptyE hR1.2.2.2 i1 c65 hR1.2.2.1, hR1.2.2.2⟩⟩) dX1_find_117
          · refine lv_aload_n hx hb dX1_find_68 rfl (lv_at hl 1 rfl) ?_
            refine z_get (T := TX1) (v := .ref (ga8 g)) Z hin rfl Y 8 (by decide) L26 rfl rfl dX1_find_69 ?_
            refine lv_iload_n hx hb dX1_find_72 rfl (lv_at hl 0 rfl) ?_
            refine z_ld8 Z Y (ahd a) (rfl) (by omega) (by omega) dX1_find_73 ?_
            refine z_top (amk a (ahd a)) (r8 (ahd a) i1) ?_
            refine lv_if_eq (tgt := 87) hx hb dX1_find_74 (by decide) (fun c74 => ?_) (fun c74 => ?_)
            · refine lv_aload_n hx hb dX1_find_87 rfl (lv_at hl 1 rfl) ?_
              refine z_get (T := TX1) (v := .ref (ga5 g)) Z hin rfl Y 5 (by decide) L16 rfl rfl dX1_find_88 ?_
              refine lv_iload_n hx hb dX1_find_91 rfl (lv_at hl 0 rfl) ?_
              refine z_ld5 Z Y (ahd a) (rfl) (by omega) (by omega) dX1_find_92 ?_
              refine z_top (apg a (ahd a)) (r5 (ahd a) i1) ?_
              refine lv_iconst (v := (-1)) hx hb dX1_find_93 (by decide) ?_
              refine lv_icmp_eq (tgt := 111) hx hb dX1_find_94 (by decide) (fun c94 => absurd c94 (c65)) (fun _ => ?_)
              refine lv_aload_n hx hb dX1_find_97 rfl (lv_at hl 1 rfl) ?_
              refine z_get (T := TX1) (v := .ref (ga7 g)) Z hin rfl Y 7 (by decide) L22 rfl rfl dX1_find_98 ?_
              refine lv_iload_n hx hb dX1_find_101 rfl (lv_at hl 0 rfl) ?_
              refine z_ld7 Z Y (ahd a) (rfl) (by omega) (by omega) dX1_find_102 ?_
              refine z_top (adt a (ahd a)) (r7 (ahd a) i1) ?_
              refine lv_if_eq (tgt := 111) hx hb dX1_find_103 (by decide) (fun c103 => ?_) (fun c103 => ?_)
              · refine lv_aload_n hx hb dX1_find_111 rfl (lv_at hl 1 rfl) ?_
                refine lv_iload_n hx hb dX1_find_112 rfl (lv_at hl 0 rfl) ?_
                refine z_callV (rest := []) Z Y rfl (kX1_empty l dC dI hg (psh (u) (nI (0))) (show ahd a < gn5 g by omega)) (cwV 1 hts gX1_find_X1_empty rfl rfl rfl (by decide +kernel) ⟨Nat.le_of_ble_eq_true rfl, Nat.le_of_ble_eq_true rfl⟩) rfl hl.1 rfl (Nat.le_of_ble_eq_true rfl) dX1_find_113 ⟨Nat.zero_le _, Nat.zero_le _⟩ (fun u113 Hq lq hw Y => ?_)
                subst hw
                refine lv_iload_n hx hb dX1_find_116 rfl (lv_at hl 0 rfl) ?_
                exact z_ret (v := nI (ahd a)) (u := (cs3 (psh (u) (nI (0))), cs4 (psh (u) (nI (0))), upd (cs5 (psh (u) (nI (0)))) (ahd a) (-1), upd (cs6 (psh (u) (nI (0)))) (ahd a) (nI 0), upd (cs7 (psh (u) (nI (0)))) (ahd a) (nI 0), upd (cs8 (psh (u) (nI (0)))) (ahd a) (nI 0), csh (psh (u) (nI (0))), csr (psh (u) (nI (0))), csw (psh (u) (nI (0))))) Z Y (rfl) (by rw [← hF0, findN_t (by rw [gw_clean (a := (oHand (nx g (ahd a)) a)) h0 c65 c74 c103]), gw_clean (a := (oHand (nx g (ahd a)) a)) h0 c65 c74 c103]; exact ⟨rfl, ⟨hg, hN, Rp_empty (ahd a) hR1.2.2.1, Iv_empty (ahd a) hR1.2.2.2⟩⟩) dX1_find_117
              · obtain ⟨q, hq, hpq⟩ := dt_pg hR.2.2.2 i1 c103
                refine lv_aload_n hx hb dX1_find_106 rfl (lv_at hl 1 rfl) ?_
                refine lv_iload_n hx hb dX1_find_107 rfl (lv_at hl 0 rfl) ?_
                refine z_callV (rest := []) Z Y rfl (kX1_store l dC dI hR1 hM i1 hq hpq) (cwV 1 hts gX1_find_X1_store rfl rfl rfl (by decide +kernel) ⟨Nat.le_of_ble_eq_true rfl, Nat.le_of_ble_eq_true rfl⟩) rfl hl.1 rfl (Nat.le_of_ble_eq_true rfl) dX1_find_108 ⟨Nat.zero_le _, Nat.zero_le _⟩ (fun u108 Hq lq hw Y => ?_)
                have hR108 := hw
                refine lv_aload_n hx hb dX1_find_111 rfl (lv_at hl 1 rfl) ?_
                refine lv_iload_n hx hb dX1_find_112 rfl (lv_at hl 0 rfl) ?_
                refine z_callV (rest := []) Z Y rfl (kX1_empty l dC dI hg u108 (show ahd a < gn5 g by omega)) (cwV 1 hts gX1_find_X1_empty rfl rfl rfl (by decide +kernel) ⟨Nat.le_of_ble_eq_true rfl, Nat.le_of_ble_eq_true rfl⟩) rfl hl.1 rfl (Nat.le_of_ble_eq_true rfl) dX1_find_113 ⟨Nat.zero_le _, Nat.zero_le _⟩ (fun u113 Hq lq hw Y => ?_)
                subst hw
                refine lv_iload_n hx hb dX1_find_116 rfl (lv_at hl 0 rfl) ?_
                exact z_ret (v := nI (ahd a)) (u := (cs3 u108, cs4 u108, upd (cs5 u108) (ahd a) (-1), upd (cs6 u108) (ahd a) (nI 0), upd (cs7 u108) (ahd a) (nI 0), upd (cs8 u108) (ahd a) (nI 0), csh u108, csr u108, csw u108)) Z Y (rfl) (by rw [← hF0, findN_t (by rw [gw_dirty (a := (oHand (nx g (ahd a)) a)) (show q < 2 ^ 31 by omega) h0 c65 c74 c103 hpq]), gw_dirty (a := (oHand (nx g (ahd a)) a)) (show q < 2 ^ 31 by omega) h0 c65 c74 c103 hpq]; exact ⟨rfl, ⟨hg, hN, Rp_empty (ahd a) hR108.2.2.1, Iv_empty (ahd a) hR108.2.2.2⟩⟩) dX1_find_117
            · refine lv_aload_n hx hb dX1_find_77 rfl (lv_at hl 1 rfl) ?_
              refine z_get (T := TX1) (v := .ref (ga8 g)) Z hin rfl Y 8 (by decide) L26 rfl rfl dX1_find_78 ?_
              refine lv_iload_n hx hb dX1_find_81 rfl (lv_at hl 0 rfl) ?_
              refine lv_iconst (v := nI (0)) hx hb dX1_find_82 (by decide) ?_
              refine z_st8 (x := nI (0)) Z Y (ahd a) (rfl) (by omega) (by omega) (by decide) dX1_find_83 (fun Hq lq Y => ?_)
              refine lv_goto (tgt := 14) hx hb dX1_find_84 (by decide) ?_
              exact ih _ _ (⟨hg, hN, Rp_mark (ahd a) (nI 0) hR1.2.2.1, Iv_mark (fun _ => rfl) hR1.2.2.2⟩) (by rw [← hF0, findN_f (by rw [gw_mk (a := (oHand (nx g (ahd a)) a)) h0 c65 c74]), gw_mk (a := (oHand (nx g (ahd a)) a)) h0 c65 c74]) _ _ Y ls (lv_sub hl [1] rfl)
        · have h0 : 0 < apn a (ahd a) := Nat.pos_of_ne_zero (fun z => c52 ((nI_le0 hb6).mpr z))
          refine lv_goto (tgt := 14) hx hb dX1_find_55 (by decide) ?_
          exact ih _ _ (hR1) (by rw [← hF0, findN_f (by rw [gw_pin (a := (oHand (nx g (ahd a)) a)) h0]), gw_pin (a := (oHand (nx g (ahd a)) a)) h0]) _ _ Y ls (lv_sub hl [1] rfl)
  refine lv_aload_n hx hb dX1_find_0 rfl (lv_at hl 0 rfl) ?_
  refine z_callI (rest := []) Z Y rfl (kX1_pinned l dC dI hR) (cwV 0 hts gX1_find_X1_pinned rfl rfl rfl (by decide +kernel) ⟨Nat.le_of_ble_eq_true rfl, Nat.le_of_ble_eq_true rfl⟩) rfl hl.1 rfl (Nat.le_of_ble_eq_true rfl) dX1_find_1 ⟨Nat.zero_le _, Nat.zero_le _⟩ (fun r1 u1 Hq lq hw Y => ?_)
  obtain ⟨rfl, rfl⟩ := hw
  refine lv_aload_n hx hb dX1_find_4 rfl (lv_at hl 0 rfl) ?_
  refine z_get (T := TX1) (v := .int (nI (geF g))) Z hin rfl Y 0 (by decide) L29 rfl rfl dX1_find_5 ?_
  have hc31 : cnt (apn a) (geF g) < 2 ^ 31 := by have := cnt_le (apn a) (geF g); omega
  refine lv_icmp_ne (tgt := 14) hx hb dX1_find_8 (by decide) (fun c8 => ?_) (fun c8 => ?_)
  · have hne : ¬ cnt (apn a) (geF g) = geF g := fun z => c8 ((nI_eq hc31 b1).mpr z)
    rw [spFind_go hne]
    obtain ⟨f0, hf0⟩ := findN_found hg hR.2.2.2 hne
    exact loop _ f0 hf0 (2 * geF g) a u hR rfl _ _ Y ls (lv_sub hl [0] rfl)
  · refine lv_bipush (v := (-5)) hx hb dX1_find_11 (by decide) ?_
    have he := (nI_eq hc31 b1).mp c8
    exact z_ret (v := (-5)) (u := u) Z Y (rfl) (by rw [spFind_all he]; exact ⟨rfl, hR⟩) dX1_find_13

set_option maxHeartbeats 4000000 in
set_option maxRecDepth 100000 in
theorem kX1_fetch (l : Launch) (dC : Nat → ClassId) (dI : Nat → Nat → Nat) {g : GE} {N : Nat} {a : AS} {u : CS} (hR : Rep g N a u) (hM : geS g = 8) (hN1 : N + 1 < 2 ^ 20) (x : Int32) : zMI l yX1_fetch wsX1_fetch ({ frames := 2, cells := 0, slots := 0, locals := 43 }) dC dI 1 g u [.int (x)] (fun r u1 => r = (spFetch g a x).1 ∧ Rep g (N + 1) (spFetch g a x).2 u1) := by
  refine zMI_of (cc := cX1_fetch) (maxL := 4) (ret := (some .int)) (by decide) rfl (Nat.le_of_ble_eq_true rfl) ?_
  intro p e s m below meth c A ls Z Y hl
  have hin : ∀ w ∈ wsX10, w ∈ wsX1_fetch := fun w h => List.mem_cons_of_mem _ (List.mem_append_right _ h)
  obtain ⟨hx, hb, hml, hown, hts, hr, hlk⟩ := id Z
  have L7 := hts (.fieldLink RX1 7 "FramePoolModel" "disk" "[I") (by decide +kernel)
  have L13 := hts (.fieldLink RX1 13 "FramePoolModel" "memory" "[I") (by decide +kernel)
  have L16 := hts (.fieldLink RX1 16 "FramePoolModel" "page" "[I") (by decide +kernel)
  have L19 := hts (.fieldLink RX1 19 "FramePoolModel" "pins" "[I") (by decide +kernel)
  have L26 := hts (.fieldLink RX1 26 "FramePoolModel" "mark" "[Z") (by decide +kernel)
  have L36 := hts (.fieldLink RX1 36 "FramePoolModel" "words" "I") (by decide +kernel)
  have L49 := hts (.fieldLink RX1 49 "FramePoolModel" "reads" "I") (by decide +kernel)
  have hl : lv_has ls 4 [(0, .ref (ga0 g)), (1, .int (x))] := hl
  have hg := hR.1
  have hN := hR.2.1
  obtain ⟨b1, b2, b3, b4, b5, b6, b7⟩ := gokB hg
  obtain ⟨r3, r4, r5, r6, r7, r8, r9, r10, r11⟩ := id hR.2.2.1
  obtain ⟨i1, i2, i3, i4, i5⟩ := id hR.2.2.2
  refine lv_aload_n hx hb dX1_fetch_0 rfl (lv_at hl 0 rfl) ?_
  refine lv_iload_n hx hb dX1_fetch_1 rfl (lv_at hl 1 rfl) ?_
  refine z_callI (rest := []) Z Y rfl (kX1_isPage l dC dI hg u x) (cwV 1 hts gX1_fetch_X1_isPage rfl rfl rfl (by decide +kernel) ⟨Nat.le_of_ble_eq_true rfl, Nat.le_of_ble_eq_true rfl⟩) rfl hl.1 rfl (Nat.le_of_ble_eq_true rfl) dX1_fetch_2 ⟨Nat.zero_le _, Nat.zero_le _⟩ (fun r2 u2 Hq lq hw Y => ?_)
  obtain ⟨rfl, hw⟩ := hw
  rcases hw with ⟨rfl, hw2⟩ | ⟨rfl, hw2⟩
  · obtain ⟨q, hq, rfl⟩ := vp_in_of hw2 b2
    refine lv_if_ne (tgt := 11) hx hb dX1_fetch_5 (by decide) (fun _ => ?_) (fun c5 => absurd c5 (by decide))
    refine lv_aload_n hx hb dX1_fetch_11 rfl (lv_at hl 0 rfl) ?_
    refine lv_iload_n hx hb dX1_fetch_12 rfl (lv_at hl 1 rfl) ?_
    refine z_callI (rest := []) Z Y rfl (kX1_frameOf l dC dI hR (nI q)) (cwV 1 hts gX1_fetch_X1_frameOf rfl rfl rfl (by decide +kernel) ⟨Nat.le_of_ble_eq_true rfl, Nat.le_of_ble_eq_true rfl⟩) rfl hl.1 rfl (Nat.le_of_ble_eq_true rfl) dX1_fetch_13 ⟨Nat.zero_le _, Nat.zero_le _⟩ (fun r13 u13 Hq lq hw Y => ?_)
    obtain ⟨rfl, hw⟩ := hw
    rcases hw with ⟨f, q13, hf13, hq13, hx13, rfl, hp13, hfo13⟩ | ⟨rfl, hfo13⟩
    · refine lv_istore_n (lv' := [(2, .int (nI (f))), (0, .ref (ga0 g)), (1, .int (nI (q)))]) hx hb dX1_fetch_16 rfl hl (by decide) rfl (fun ls hl => ?_)
      refine lv_iload_n hx hb dX1_fetch_17 rfl (lv_at hl 0 rfl) ?_
      refine lv_bipush (v := (-5)) hx hb dX1_fetch_18 (by decide) ?_
      refine lv_icmp_ne (tgt := 91) hx hb dX1_fetch_20 (by decide) (fun _ => ?_) (fun c20 => absurd c20 (nI_ne_m5 (show f < 2 ^ 31 by omega)))
      refine lv_aload_n hx hb dX1_fetch_91 rfl (lv_at hl 1 rfl) ?_
      refine z_get (T := TX1) (v := .ref (ga6 g)) Z hin rfl Y 6 (by decide) L19 rfl rfl dX1_fetch_92 ?_
      refine lv_iload_n hx hb dX1_fetch_95 rfl (lv_at hl 0 rfl) ?_
      refine lv_dup2_11 hx hb dX1_fetch_96 rfl rfl ?_
      refine z_ld6 Z Y (f) (rfl) (by omega) (by omega) dX1_fetch_97 ?_
      refine z_top (nI (apn a f)) (r6 f hf13) ?_
      refine lv_iconst (v := nI (1)) hx hb dX1_fetch_98 (by decide) ?_
      refine lv_iadd hx hb dX1_fetch_99 ?_
      refine z_top (nI ((apn a f) + (1))) (nI_add (apn a f) (1)) ?_
      refine z_st6 (x := nI ((apn a f) + (1))) Z Y (f) (rfl) (by omega) (by omega) dX1_fetch_100 (fun Hq lq Y => ?_)
      refine lv_aload_n hx hb dX1_fetch_101 rfl (lv_at hl 1 rfl) ?_
      refine z_get (T := TX1) (v := .ref (ga8 g)) Z hin rfl Y 8 (by decide) L26 rfl rfl dX1_fetch_102 ?_
      refine lv_iload_n hx hb dX1_fetch_105 rfl (lv_at hl 0 rfl) ?_
      refine lv_iconst (v := nI (1)) hx hb dX1_fetch_106 (by decide) ?_
      refine z_st8 (x := nI (1)) Z Y (f) (rfl) (by omega) (by omega) (by decide) dX1_fetch_107 (fun Hq lq Y => ?_)
      refine lv_iload_n hx hb dX1_fetch_108 rfl (lv_at hl 0 rfl) ?_
      exact z_ret (v := nI (f)) (u := ps8 (ps6 (u) (upd (cs6 (u)) (f) (nI ((apn a f) + (1))))) (upd (cs8 (ps6 (u) (upd (cs6 (u)) (f) (nI ((apn a f) + (1)))))) (f) (nI (1)))) Z Y (rfl) (by rw [spFetch_hit hw2 hfo13]; exact ⟨rfl, hg, hN1, Rp_pin f hR.2.2.1, Iv_pin hf13 (by rw [hp13]; exact nI_ne_m1 (show q13 < 2 ^ 31 by omega)) hR.2.2.2⟩) dX1_fetch_109
    · refine lv_istore_n (lv' := [(2, .int ((-5))), (0, .ref (ga0 g)), (1, .int (nI (q)))]) hx hb dX1_fetch_16 rfl hl (by decide) rfl (fun ls hl => ?_)
      refine lv_iload_n hx hb dX1_fetch_17 rfl (lv_at hl 0 rfl) ?_
      refine lv_bipush (v := (-5)) hx hb dX1_fetch_18 (by decide) ?_
      refine lv_icmp_ne (tgt := 91) hx hb dX1_fetch_20 (by decide) (fun c20 => absurd (rfl) c20) (fun _ => ?_)
      refine lv_aload_n hx hb dX1_fetch_23 rfl (lv_at hl 1 rfl) ?_
      refine z_callI (rest := []) Z Y rfl (kX1_find l dC dI hR hM) (cwV 0 hts gX1_fetch_X1_find rfl rfl rfl (by decide +kernel) ⟨Nat.le_of_ble_eq_true rfl, Nat.le_of_ble_eq_true rfl⟩) rfl hl.1 rfl (Nat.le_of_ble_eq_true rfl) dX1_fetch_24 ⟨Nat.zero_le _, Nat.zero_le _⟩ (fun r24 u24 Hq lq hw Y => ?_)
      obtain ⟨hw1, hR24⟩ := hw
      rcases hsf : (spFind g a).2 with _ | f
      · obtain rfl : r24 = -5 := by rw [hw1, hsf]; rfl
        refine lv_istore_n (lv' := [(2, .int ((-5))), (0, .ref (ga0 g)), (1, .int (nI (q)))]) hx hb dX1_fetch_27 rfl hl (by decide) rfl (fun ls hl => ?_)
        refine lv_iload_n hx hb dX1_fetch_28 rfl (lv_at hl 0 rfl) ?_
        refine lv_bipush (v := (-5)) hx hb dX1_fetch_29 (by decide) ?_
        refine lv_icmp_ne (tgt := 36) hx hb dX1_fetch_31 (by decide) (fun c31 => absurd (rfl) c31) (fun _ => ?_)
        refine lv_iconst (v := (-1)) hx hb dX1_fetch_34 (by decide) ?_
        exact z_ret (v := (-1)) (u := u24) Z Y (rfl) (by rw [spFetch_all hw2 hfo13 hsf]; exact ⟨rfl, Rep_more hN1 hR24⟩) dX1_fetch_35
      · obtain rfl : r24 = nI f := by rw [hw1, hsf]; rfl
        obtain ⟨hno, hfl⟩ := spFind_ok (x := nI q) hg (nI_ne_m1 (show q < 2 ^ 31 by omega)) hR.2.2.2 (fop_no hfo13 hw2)
        have hf := hfl f hsf
        refine lv_istore_n (lv' := [(2, .int (nI (f))), (0, .ref (ga0 g)), (1, .int (nI (q)))]) hx hb dX1_fetch_27 rfl hl (by decide) rfl (fun ls hl => ?_)
        refine lv_iload_n hx hb dX1_fetch_28 rfl (lv_at hl 0 rfl) ?_
        refine lv_bipush (v := (-5)) hx hb dX1_fetch_29 (by decide) ?_
        refine lv_icmp_ne (tgt := 36) hx hb dX1_fetch_31 (by decide) (fun _ => ?_) (fun c31 => absurd c31 (nI_ne_m5 (show f < 2 ^ 31 by omega)))
        refine lv_iconst (v := nI (0)) hx hb dX1_fetch_36 (by decide) ?_
        refine lv_istore_n (lv' := [(3, .int (nI (0))), (2, .int (nI (f))), (0, .ref (ga0 g)), (1, .int (nI (q)))]) hx hb dX1_fetch_37 rfl hl (by decide) rfl (fun ls hl => ?_)
        have loop : ∀ (n k : Nat), k + n = geW g → ∀ (H : Heap) (locs : List Loc), zW dC dI 1 g A s.heap s (ps4 u24 (va_cpy (cs3 u24) (cs4 u24) (q * geS g) (f * geS g) k)) H locs → ∀ ls : Array Slot, lv_has ls 4 [(0, .ref (ga0 g)), (1, .int (nI (q))), (2, .int (nI (f))), (3, .int (nI (k)))] → W p l e ({ frames := 2, cells := 0, slots := 0, locals := 43 }) s m (Value.ref (ga0 g) :: [.int (nI (q))]).toArray below meth c H locs 0 0 (zQI below dC dI 1 g A (fun r u1 => r = (spFetch g a (nI q)).1 ∧ Rep g (N + 1) (spFetch g a (nI q)).2 u1) (Value.ref (ga0 g) :: [.int (nI (q))]).toArray s) (F0 m 38 ls []) := by
          intro n
          induction n with
          | zero =>
            intro k hkn Hq lq Y ls hl
            obtain rfl : k = geW g := hkn
            refine lv_iload_n hx hb dX1_fetch_38 rfl (lv_at hl 3 rfl) ?_
            refine lv_aload_n hx hb dX1_fetch_39 rfl (lv_at hl 0 rfl) ?_
            refine z_get (T := TX1) (v := .int (nI (geW g))) Z hin rfl Y 2 (by decide) L36 rfl rfl dX1_fetch_40 ?_
            refine lv_icmp_ge (tgt := 74) hx hb dX1_fetch_43 (by decide) (fun _ => ?_) (fun c43 => absurd ((nI_leI b3 (by omega)).mpr (by omega)) c43)
            refine lv_aload_n hx hb dX1_fetch_74 rfl (lv_at hl 0 rfl) ?_
            refine z_get (T := TX1) (v := .ref (ga5 g)) Z hin rfl Y 5 (by decide) L16 rfl rfl dX1_fetch_75 ?_
            refine lv_iload_n hx hb dX1_fetch_78 rfl (lv_at hl 2 rfl) ?_
            refine lv_iload_n hx hb dX1_fetch_79 rfl (lv_at hl 1 rfl) ?_
            refine z_st5 (x := nI (q)) Z Y (f) (rfl) (by omega) (by omega) dX1_fetch_80 (fun Hq lq Y => ?_)
            refine lv_aload_n hx hb dX1_fetch_81 rfl (lv_at hl 0 rfl) ?_
            refine lv_dup hx hb dX1_fetch_82 rfl ?_
            refine z_get (T := TX1) (v := .int (csr (ps5 (ps4 u24 (va_cpy (cs3 u24) (cs4 u24) (q * geS g) (f * geS g) (geW g))) (upd (cs5 (ps4 u24 (va_cpy (cs3 u24) (cs4 u24) (q * geS g) (f * geS g) (geW g)))) (f) (nI (q)))))) Z hin rfl Y 10 (by decide) L49 rfl rfl dX1_fetch_83 ?_
            refine lv_iconst (v := nI (1)) hx hb dX1_fetch_86 (by decide) ?_
            refine lv_iadd hx hb dX1_fetch_87 ?_
            refine z_putr (T := TX1) (v := (csr (ps5 (ps4 u24 (va_cpy (cs3 u24) (cs4 u24) (q * geS g) (f * geS g) (geW g))) (upd (cs5 (ps4 u24 (va_cpy (cs3 u24) (cs4 u24) (q * geS g) (f * geS g) (geW g)))) (f) (nI (q)))) + nI (1))) Z hin tyX1_ok nmX1 rfl Y L49 rfl rfl rfl dX1_fetch_88 (fun Hq lq Y => ?_)
            refine lv_aload_n hx hb dX1_fetch_91 rfl (lv_at hl 0 rfl) ?_
            refine z_get (T := TX1) (v := .ref (ga6 g)) Z hin rfl Y 6 (by decide) L19 rfl rfl dX1_fetch_92 ?_
            refine lv_iload_n hx hb dX1_fetch_95 rfl (lv_at hl 2 rfl) ?_
            refine lv_dup2_11 hx hb dX1_fetch_96 rfl rfl ?_
            refine z_ld6 Z Y (f) (rfl) (by omega) (by omega) dX1_fetch_97 ?_
            refine z_top (nI (apn (spFind g a).1 f)) (hR24.2.2.1.2.2.2.1 f hf) ?_
            refine lv_iconst (v := nI (1)) hx hb dX1_fetch_98 (by decide) ?_
            refine lv_iadd hx hb dX1_fetch_99 ?_
            refine z_top (nI ((apn (spFind g a).1 f) + (1))) (nI_add (apn (spFind g a).1 f) (1)) ?_
            refine z_st6 (x := nI ((apn (spFind g a).1 f) + (1))) Z Y (f) (rfl) (by omega) (by omega) dX1_fetch_100 (fun Hq lq Y => ?_)
            refine lv_aload_n hx hb dX1_fetch_101 rfl (lv_at hl 0 rfl) ?_
            refine z_get (T := TX1) (v := .ref (ga8 g)) Z hin rfl Y 8 (by decide) L26 rfl rfl dX1_fetch_102 ?_
            refine lv_iload_n hx hb dX1_fetch_105 rfl (lv_at hl 2 rfl) ?_
            refine lv_iconst (v := nI (1)) hx hb dX1_fetch_106 (by decide) ?_
            refine z_st8 (x := nI (1)) Z Y (f) (rfl) (by omega) (by omega) (by decide) dX1_fetch_107 (fun Hq lq Y => ?_)
            refine lv_iload_n hx hb dX1_fetch_108 rfl (lv_at hl 2 rfl) ?_
            exact z_ret (v := nI (f)) (u := ps8 (ps6 (psr (ps5 (ps4 u24 (va_cpy (cs3 u24) (cs4 u24) (q * geS g) (f * geS g) (geW g))) (upd (cs5 (ps4 u24 (va_cpy (cs3 u24) (cs4 u24) (q * geS g) (f * geS g) (geW g)))) (f) (nI (q)))) ((csr (ps5 (ps4 u24 (va_cpy (cs3 u24) (cs4 u24) (q * geS g) (f * geS g) (geW g))) (upd (cs5 (ps4 u24 (va_cpy (cs3 u24) (cs4 u24) (q * geS g) (f * geS g) (geW g)))) (f) (nI (q)))) + nI (1)))) (upd (cs6 (psr (ps5 (ps4 u24 (va_cpy (cs3 u24) (cs4 u24) (q * geS g) (f * geS g) (geW g))) (upd (cs5 (ps4 u24 (va_cpy (cs3 u24) (cs4 u24) (q * geS g) (f * geS g) (geW g)))) (f) (nI (q)))) ((csr (ps5 (ps4 u24 (va_cpy (cs3 u24) (cs4 u24) (q * geS g) (f * geS g) (geW g))) (upd (cs5 (ps4 u24 (va_cpy (cs3 u24) (cs4 u24) (q * geS g) (f * geS g) (geW g)))) (f) (nI (q)))) + nI (1))))) (f) (nI ((apn (spFind g a).1 f) + (1))))) (upd (cs8 (ps6 (psr (ps5 (ps4 u24 (va_cpy (cs3 u24) (cs4 u24) (q * geS g) (f * geS g) (geW g))) (upd (cs5 (ps4 u24 (va_cpy (cs3 u24) (cs4 u24) (q * geS g) (f * geS g) (geW g)))) (f) (nI (q)))) ((csr (ps5 (ps4 u24 (va_cpy (cs3 u24) (cs4 u24) (q * geS g) (f * geS g) (geW g))) (upd (cs5 (ps4 u24 (va_cpy (cs3 u24) (cs4 u24) (q * geS g) (f * geS g) (geW g)))) (f) (nI (q)))) + nI (1)))) (upd (cs6 (psr (ps5 (ps4 u24 (va_cpy (cs3 u24) (cs4 u24) (q * geS g) (f * geS g) (geW g))) (upd (cs5 (ps4 u24 (va_cpy (cs3 u24) (cs4 u24) (q * geS g) (f * geS g) (geW g)))) (f) (nI (q)))) ((csr (ps5 (ps4 u24 (va_cpy (cs3 u24) (cs4 u24) (q * geS g) (f * geS g) (geW g))) (upd (cs5 (ps4 u24 (va_cpy (cs3 u24) (cs4 u24) (q * geS g) (f * geS g) (geW g)))) (f) (nI (q)))) + nI (1))))) (f) (nI ((apn (spFind g a).1 f) + (1)))))) (f) (nI (1)))) Z Y (rfl) (by rw [spFetch_new (show q < 2 ^ 31 by omega) hw2 hfo13 hsf]; exact ⟨rfl, hg, hN1, Rp_pin f (Rp_read f hg hq hR24.2.2.1), Iv_pin hf (by show upd _ f _ f ≠ -1; rw [pk_us]; exact nI_ne_m1 (show q < 2 ^ 31 by omega)) (Iv_read hq b2 hno hR24.2.2.2)⟩) dX1_fetch_109
          | succ n ih =>
            intro k hkn Hq lq Y ls hl
            have hkW : k < geW g := by omega
            have e0 := cpy_step (f := cs3 u24) (g := cs4 u24) (sp := q * geS g) (dp := f * geS g) (n := k) rfl
            refine lv_iload_n hx hb dX1_fetch_38 rfl (lv_at hl 3 rfl) ?_
            refine lv_aload_n hx hb dX1_fetch_39 rfl (lv_at hl 0 rfl) ?_
            refine z_get (T := TX1) (v := .int (nI (geW g))) Z hin rfl Y 2 (by decide) L36 rfl rfl dX1_fetch_40 ?_
            refine lv_icmp_ge (tgt := 74) hx hb dX1_fetch_43 (by decide) (fun c43 => absurd c43 (fun z => absurd ((nI_leI b3 (by omega)).mp z) (by omega))) (fun _ => ?_)
            refine lv_aload_n hx hb dX1_fetch_46 rfl (lv_at hl 0 rfl) ?_
            refine z_get (T := TX1) (v := .ref (ga4 g)) Z hin rfl Y 4 (by decide) L13 rfl rfl dX1_fetch_47 ?_
            refine lv_bipush (v := nI (8)) hx hb dX1_fetch_50 (by decide) ?_
            refine lv_iload_n hx hb dX1_fetch_52 rfl (lv_at hl 2 rfl) ?_
            refine lv_imul hx hb dX1_fetch_53 ?_
            refine z_top (nI (f * geS g)) (m8 hM) ?_
            refine lv_iload_n hx hb dX1_fetch_54 rfl (lv_at hl 3 rfl) ?_
            refine lv_iadd hx hb dX1_fetch_55 ?_
            refine z_top (nI ((f * geS g) + (k))) (nI_add (f * geS g) (k)) ?_
            refine lv_aload_n hx hb dX1_fetch_56 rfl (lv_at hl 0 rfl) ?_
            refine z_get (T := TX1) (v := .ref (ga3 g)) Z hin rfl Y 3 (by decide) L7 rfl rfl dX1_fetch_57 ?_
            refine lv_bipush (v := nI (8)) hx hb dX1_fetch_60 (by decide) ?_
            refine lv_iload_n hx hb dX1_fetch_62 rfl (lv_at hl 1 rfl) ?_
            refine lv_imul hx hb dX1_fetch_63 ?_
            refine z_top (nI (q * geS g)) (m8 hM) ?_
            refine lv_iload_n hx hb dX1_fetch_64 rfl (lv_at hl 3 rfl) ?_
            refine lv_iadd hx hb dX1_fetch_65 ?_
            refine z_top (nI ((q * geS g) + (k))) (nI_add (q * geS g) (k)) ?_
            refine z_ld3 Z Y ((q * geS g) + (k)) (rfl) (lt3 hg hq hkW rfl) (by omega) dX1_fetch_66 ?_
            refine z_st4 (x := cs3 (ps4 u24 (va_cpy (cs3 u24) (cs4 u24) (q * geS g) (f * geS g) k)) ((q * geS g) + (k))) Z Y ((f * geS g) + (k)) (rfl) (lt4 hg hf hkW rfl) (by omega) dX1_fetch_67 (fun Hq lq Y => ?_)
            refine lv_iinc (v := nI (k + 1)) (lv' := [(3, .int (nI (k + 1))), (0, .ref (ga0 g)), (1, .int (nI (q))), (2, .int (nI (f)))]) hx hb dX1_fetch_68 hl (k := 3) rfl (nI_add (k) 1) (by decide) rfl (fun ls hl => ?_)
            refine lv_goto (tgt := 38) hx hb dX1_fetch_71 (by decide) ?_
            exact ih (k + 1) (by omega) _ _ (by rw [← e0]; exact Y) ls (lv_sub hl [1, 2, 3, 0] rfl)
        exact loop (geW g) 0 (by omega) _ _ (by rw [cpy_0]; exact Y) ls (lv_sub hl [2, 3, 1, 0] rfl)
  · refine lv_if_ne (tgt := 11) hx hb dX1_fetch_5 (by decide) (fun c5 => absurd (by decide) c5) (fun _ => ?_)
    refine lv_bipush (v := (-2)) hx hb dX1_fetch_8 (by decide) ?_
    exact z_ret (v := (-2)) (u := u) Z Y (rfl) (by rw [spFetch_bad hw2]; exact ⟨rfl, Rep_more hN1 hR⟩) dX1_fetch_10

set_option maxHeartbeats 4000000 in
set_option maxRecDepth 100000 in
theorem kX1_unpin (l : Launch) (dC : Nat → ClassId) (dI : Nat → Nat → Nat) {g : GE} {N : Nat} {a : AS} {u : CS} (hR : Rep g N a u) (x : Int32) : zMI l yX1_unpin wsX1_unpin ({ frames := 1, cells := 0, slots := 0, locals := 21 }) dC dI 1 g u [.int (x)] (fun r u1 => r = (spUnpin g a x).1 ∧ Rep g N (spUnpin g a x).2 u1) := by
  refine zMI_of (cc := cX1_unpin) (maxL := 2) (ret := (some .int)) (by decide) rfl (Nat.le_of_ble_eq_true rfl) ?_
  intro p e s m below meth c A ls Z Y hl
  have hin : ∀ w ∈ wsX10, w ∈ wsX1_unpin := fun w h => List.mem_cons_of_mem _ (List.mem_append_right _ h)
  obtain ⟨hx, hb, hml, hown, hts, hr, hlk⟩ := id Z
  have L19 := hts (.fieldLink RX1 19 "FramePoolModel" "pins" "[I") (by decide +kernel)
  have hl : lv_has ls 2 [(0, .ref (ga0 g)), (1, .int (x))] := hl
  have hg := hR.1
  have hN := hR.2.1
  obtain ⟨b1, b2, b3, b4, b5, b6, b7⟩ := gokB hg
  obtain ⟨r3, r4, r5, r6, r7, r8, r9, r10, r11⟩ := id hR.2.2.1
  obtain ⟨i1, i2, i3, i4, i5⟩ := id hR.2.2.2
  refine lv_aload_n hx hb dX1_unpin_0 rfl (lv_at hl 0 rfl) ?_
  refine lv_iload_n hx hb dX1_unpin_1 rfl (lv_at hl 1 rfl) ?_
  refine z_callI (rest := []) Z Y rfl (kX1_isPinned l dC dI hR x) (cwV 1 hts gX1_unpin_X1_isPinned rfl rfl rfl (by decide +kernel) ⟨Nat.le_of_ble_eq_true rfl, Nat.le_of_ble_eq_true rfl⟩) rfl hl.1 rfl (Nat.le_of_ble_eq_true rfl) dX1_unpin_2 ⟨Nat.zero_le _, Nat.zero_le _⟩ (fun r2 u2 Hq lq hw Y => ?_)
  obtain ⟨rfl, hw⟩ := hw
  rcases hw with ⟨rfl, hw2⟩ | ⟨rfl, hw2⟩
  · obtain ⟨hv2, hw0⟩ := hw2
    obtain ⟨k, hk, rfl⟩ := vp_in_of hv2 b1
    rw [nI_clamp (show k < 2 ^ 31 by omega)] at hw0
    refine lv_if_ne (tgt := 11) hx hb dX1_unpin_5 (by decide) (fun _ => ?_) (fun c5 => absurd c5 (by decide))
    refine lv_aload_n hx hb dX1_unpin_11 rfl (lv_at hl 0 rfl) ?_
    refine z_get (T := TX1) (v := .ref (ga6 g)) Z hin rfl Y 6 (by decide) L19 rfl rfl dX1_unpin_12 ?_
    refine lv_iload_n hx hb dX1_unpin_15 rfl (lv_at hl 1 rfl) ?_
    refine lv_dup2_11 hx hb dX1_unpin_16 rfl rfl ?_
    refine z_ld6 Z Y (k) (rfl) (by omega) (by omega) dX1_unpin_17 ?_
    refine z_top (nI (apn a k)) (r6 k hk) ?_
    refine lv_iconst (v := nI (1)) hx hb dX1_unpin_18 (by decide) ?_
    refine lv_isub hx hb dX1_unpin_19 ?_
    refine z_top (nI (apn a k - 1)) (pk_sub hw0) ?_
    refine z_st6 (x := nI (apn a k - 1)) Z Y (k) (rfl) (by omega) (by omega) dX1_unpin_20 (fun Hq lq Y => ?_)
    refine lv_aload_n hx hb dX1_unpin_21 rfl (lv_at hl 0 rfl) ?_
    refine z_get (T := TX1) (v := .ref (ga6 g)) Z hin rfl Y 6 (by decide) L19 rfl rfl dX1_unpin_22 ?_
    refine lv_iload_n hx hb dX1_unpin_25 rfl (lv_at hl 1 rfl) ?_
    refine z_ld6 Z Y (k) (rfl) (by omega) (by omega) dX1_unpin_26 ?_
    refine z_top (nI (apn a k - 1)) (pk_us) ?_
    exact z_ret (v := nI (apn a k - 1)) (u := ps6 (u) (upd (cs6 (u)) (k) (nI (apn a k - 1)))) Z Y (rfl) (by rw [spUnpin_t (show k < 2 ^ 31 by omega) hv2 hw0]; exact ⟨rfl, hg, hN, Rp_unpin k hR.2.2.1, Iv_unpin hk hR.2.2.2⟩) dX1_unpin_27
  · refine lv_if_ne (tgt := 11) hx hb dX1_unpin_5 (by decide) (fun c5 => absurd (by decide) c5) (fun _ => ?_)
    refine lv_bipush (v := (-3)) hx hb dX1_unpin_8 (by decide) ?_
    exact z_ret (v := (-3)) (u := u) Z Y (rfl) (by rw [spUnpin_f hw2]; exact ⟨rfl, hR⟩) dX1_unpin_10

set_option maxHeartbeats 4000000 in
set_option maxRecDepth 100000 in
theorem kX1_writeWord (l : Launch) (dC : Nat → ClassId) (dI : Nat → Nat → Nat) {g : GE} {N : Nat} {a : AS} {u : CS} (hR : Rep g N a u) (hM : geS g = 8) (x y v : Int32) : zMI l yX1_writeWord wsX1_writeWord ({ frames := 1, cells := 0, slots := 0, locals := 21 }) dC dI 1 g u [.int (x), .int (y), .int (v)] (fun r u1 => r = (spWriteW g a x y v).1 ∧ Rep g N (spWriteW g a x y v).2 u1) := by
  refine zMI_of (cc := cX1_writeWord) (maxL := 4) (ret := (some .int)) (by decide) rfl (Nat.le_of_ble_eq_true rfl) ?_
  intro p e s m below meth c A ls Z Y hl
  have hin : ∀ w ∈ wsX10, w ∈ wsX1_writeWord := fun w h => List.mem_cons_of_mem _ (List.mem_append_right _ h)
  obtain ⟨hx, hb, hml, hown, hts, hr, hlk⟩ := id Z
  have L13 := hts (.fieldLink RX1 13 "FramePoolModel" "memory" "[I") (by decide +kernel)
  have L22 := hts (.fieldLink RX1 22 "FramePoolModel" "dirty" "[Z") (by decide +kernel)
  have L36 := hts (.fieldLink RX1 36 "FramePoolModel" "words" "I") (by decide +kernel)
  have hl : lv_has ls 4 [(0, .ref (ga0 g)), (1, .int (x)), (2, .int (y)), (3, .int (v))] := hl
  have hg := hR.1
  have hN := hR.2.1
  obtain ⟨b1, b2, b3, b4, b5, b6, b7⟩ := gokB hg
  obtain ⟨r3, r4, r5, r6, r7, r8, r9, r10, r11⟩ := id hR.2.2.1
  obtain ⟨i1, i2, i3, i4, i5⟩ := id hR.2.2.2
  refine lv_aload_n hx hb dX1_writeWord_0 rfl (lv_at hl 0 rfl) ?_
  refine lv_iload_n hx hb dX1_writeWord_1 rfl (lv_at hl 1 rfl) ?_
  refine z_callI (rest := []) Z Y rfl (kX1_isPinned l dC dI hR x) (cwV 1 hts gX1_writeWord_X1_isPinned rfl rfl rfl (by decide +kernel) ⟨Nat.le_of_ble_eq_true rfl, Nat.le_of_ble_eq_true rfl⟩) rfl hl.1 rfl (Nat.le_of_ble_eq_true rfl) dX1_writeWord_2 ⟨Nat.zero_le _, Nat.zero_le _⟩ (fun r2 u2 Hq lq hw Y => ?_)
  obtain ⟨rfl, hw⟩ := hw
  rcases hw with ⟨rfl, hw2⟩ | ⟨rfl, hw2⟩
  · refine lv_if_ne (tgt := 11) hx hb dX1_writeWord_5 (by decide) (fun _ => ?_) (fun c5 => absurd c5 (by decide))
    refine lv_iload_n hx hb dX1_writeWord_11 rfl (lv_at hl 2 rfl) ?_
    refine lv_if_lt (tgt := 23) hx hb dX1_writeWord_12 (by decide) (fun c12 => ?_) (fun c12 => ?_)
    · refine lv_bipush (v := (-4)) hx hb dX1_writeWord_23 (by decide) ?_
      exact z_ret (v := (-4)) (u := u) Z Y (rfl) (by rw [spWriteW_o hw2 (not_in_neg c12)]; exact ⟨rfl, hR⟩) dX1_writeWord_25
    · refine lv_iload_n hx hb dX1_writeWord_15 rfl (lv_at hl 2 rfl) ?_
      refine lv_aload_n hx hb dX1_writeWord_16 rfl (lv_at hl 0 rfl) ?_
      refine z_get (T := TX1) (v := .int (nI (geW g))) Z hin rfl Y 2 (by decide) L36 rfl rfl dX1_writeWord_17 ?_
      refine lv_icmp_lt (tgt := 26) hx hb dX1_writeWord_20 (by decide) (fun c20 => ?_) (fun c20 => ?_)
      · obtain ⟨hv2, hw0⟩ := hw2
        obtain ⟨k, hk, rfl⟩ := vp_in_of hv2 b1
        rw [nI_clamp (show k < 2 ^ 31 by omega)] at hw0
        have hwj := (in_iff b3).mpr ⟨i_le_of c12, c20⟩
        obtain ⟨j, hj, rfl⟩ := vp_in_of hwj b3
        refine lv_aload_n hx hb dX1_writeWord_26 rfl (lv_at hl 0 rfl) ?_
        refine z_get (T := TX1) (v := .ref (ga4 g)) Z hin rfl Y 4 (by decide) L13 rfl rfl dX1_writeWord_27 ?_
        refine lv_bipush (v := nI (8)) hx hb dX1_writeWord_30 (by decide) ?_
        refine lv_iload_n hx hb dX1_writeWord_32 rfl (lv_at hl 1 rfl) ?_
        refine lv_imul hx hb dX1_writeWord_33 ?_
        refine z_top (nI (k * geS g)) (m8 hM) ?_
        refine lv_iload_n hx hb dX1_writeWord_34 rfl (lv_at hl 2 rfl) ?_
        refine lv_iadd hx hb dX1_writeWord_35 ?_
        refine z_top (nI ((k * geS g) + (j))) (nI_add (k * geS g) (j)) ?_
        refine lv_iload_n hx hb dX1_writeWord_36 rfl (lv_at hl 3 rfl) ?_
        refine z_st4 (x := v) Z Y ((k * geS g) + (j)) (rfl) (lt4 hg hk hj rfl) (by omega) dX1_writeWord_37 (fun Hq lq Y => ?_)
        refine lv_aload_n hx hb dX1_writeWord_38 rfl (lv_at hl 0 rfl) ?_
        refine z_get (T := TX1) (v := .ref (ga7 g)) Z hin rfl Y 7 (by decide) L22 rfl rfl dX1_writeWord_39 ?_
        refine lv_iload_n hx hb dX1_writeWord_42 rfl (lv_at hl 1 rfl) ?_
        refine lv_iconst (v := nI (1)) hx hb dX1_writeWord_43 (by decide) ?_
        refine z_st7 (x := nI (1)) Z Y (k) (rfl) (by omega) (by omega) (by decide) dX1_writeWord_44 (fun Hq lq Y => ?_)
        refine lv_iconst (v := nI (0)) hx hb dX1_writeWord_45 (by decide) ?_
        exact z_ret (v := nI (0)) (u := ps7 (ps4 (u) (upd (cs4 (u)) ((k * geS g) + (j)) (v))) (upd (cs7 (ps4 (u) (upd (cs4 (u)) ((k * geS g) + (j)) (v)))) (k) (nI (1)))) Z Y (rfl) (by rw [spWriteW_t (show k < 2 ^ 31 by omega) (show j < 2 ^ 31 by omega) hv2 hw0 hwj]; exact ⟨rfl, hg, hN, Rp_word k v hg hj hR.2.2.1, Iv_row _ (pn_pg hR.2.2.2 hk hw0) hR.2.2.2⟩) dX1_writeWord_46
      · refine lv_bipush (v := (-4)) hx hb dX1_writeWord_23 (by decide) ?_
        exact z_ret (v := (-4)) (u := u) Z Y (rfl) (by rw [spWriteW_o hw2 (not_in_ge b3 (i_le_of c20))]; exact ⟨rfl, hR⟩) dX1_writeWord_25
  · refine lv_if_ne (tgt := 11) hx hb dX1_writeWord_5 (by decide) (fun c5 => absurd (by decide) c5) (fun _ => ?_)
    refine lv_bipush (v := (-3)) hx hb dX1_writeWord_8 (by decide) ?_
    exact z_ret (v := (-3)) (u := u) Z Y (rfl) (by rw [spWriteW_f hw2]; exact ⟨rfl, hR⟩) dX1_writeWord_10

set_option maxHeartbeats 4000000 in
set_option maxRecDepth 100000 in
theorem kX1_flush (l : Launch) (dC : Nat → ClassId) (dI : Nat → Nat → Nat) {g : GE} {N : Nat} {a : AS} {u : CS} (hR : Rep g N a u) (hM : geS g = 8) (x : Int32) : zMI l yX1_flush wsX1_flush ({ frames := 1, cells := 0, slots := 0, locals := 22 }) dC dI 1 g u [.int (x)] (fun r u1 => r = (spFlush g a x).1 ∧ Rep g N (spFlush g a x).2 u1) := by
  refine zMI_of (cc := cX1_flush) (maxL := 3) (ret := (some .int)) (by decide) rfl (Nat.le_of_ble_eq_true rfl) ?_
  intro p e s m below meth c A ls Z Y hl
  have hin : ∀ w ∈ wsX10, w ∈ wsX1_flush := fun w h => List.mem_cons_of_mem _ (List.mem_append_right _ h)
  obtain ⟨hx, hb, hml, hown, hts, hr, hlk⟩ := id Z
  have L22 := hts (.fieldLink RX1 22 "FramePoolModel" "dirty" "[Z") (by decide +kernel)
  have hl : lv_has ls 3 [(0, .ref (ga0 g)), (1, .int (x))] := hl
  have hg := hR.1
  have hN := hR.2.1
  obtain ⟨b1, b2, b3, b4, b5, b6, b7⟩ := gokB hg
  obtain ⟨r3, r4, r5, r6, r7, r8, r9, r10, r11⟩ := id hR.2.2.1
  obtain ⟨i1, i2, i3, i4, i5⟩ := id hR.2.2.2
  refine lv_aload_n hx hb dX1_flush_0 rfl (lv_at hl 0 rfl) ?_
  refine lv_iload_n hx hb dX1_flush_1 rfl (lv_at hl 1 rfl) ?_
  refine z_callI (rest := []) Z Y rfl (kX1_frameOf l dC dI hR x) (cwV 1 hts gX1_flush_X1_frameOf rfl rfl rfl (by decide +kernel) ⟨Nat.le_of_ble_eq_true rfl, Nat.le_of_ble_eq_true rfl⟩) rfl hl.1 rfl (Nat.le_of_ble_eq_true rfl) dX1_flush_2 ⟨Nat.zero_le _, Nat.zero_le _⟩ (fun r2 u2 Hq lq hw Y => ?_)
  obtain ⟨rfl, hw⟩ := hw
  rcases hw with ⟨f, q, hf, hq, hxq, rfl, hp, hfo⟩ | ⟨rfl, hfo⟩
  · refine lv_istore_n (lv' := [(2, .int (nI (f))), (0, .ref (ga0 g)), (1, .int (x))]) hx hb dX1_flush_5 rfl hl (by decide) rfl (fun ls hl => ?_)
    refine lv_iload_n hx hb dX1_flush_6 rfl (lv_at hl 0 rfl) ?_
    refine lv_bipush (v := (-5)) hx hb dX1_flush_7 (by decide) ?_
    refine lv_icmp_eq (tgt := 21) hx hb dX1_flush_9 (by decide) (fun c9 => absurd c9 (nI_ne_m5 (show f < 2 ^ 31 by omega))) (fun _ => ?_)
    refine lv_aload_n hx hb dX1_flush_12 rfl (lv_at hl 1 rfl) ?_
    refine z_get (T := TX1) (v := .ref (ga7 g)) Z hin rfl Y 7 (by decide) L22 rfl rfl dX1_flush_13 ?_
    refine lv_iload_n hx hb dX1_flush_16 rfl (lv_at hl 0 rfl) ?_
    refine z_ld7 Z Y (f) (rfl) (by omega) (by omega) dX1_flush_17 ?_
    refine z_top (adt a f) (r7 f hf) ?_
    refine lv_if_ne (tgt := 23) hx hb dX1_flush_18 (by decide) (fun c18 => ?_) (fun c18 => ?_)
    · refine lv_aload_n hx hb dX1_flush_23 rfl (lv_at hl 1 rfl) ?_
      refine lv_iload_n hx hb dX1_flush_24 rfl (lv_at hl 0 rfl) ?_
      refine z_callV (rest := []) Z Y rfl (kX1_store l dC dI hR hM hf hq hp) (cwV 1 hts gX1_flush_X1_store rfl rfl rfl (by decide +kernel) ⟨Nat.le_of_ble_eq_true rfl, Nat.le_of_ble_eq_true rfl⟩) rfl hl.1 rfl (Nat.le_of_ble_eq_true rfl) dX1_flush_25 ⟨Nat.zero_le _, Nat.zero_le _⟩ (fun u25 Hq lq hw Y => ?_)
      refine lv_iconst (v := nI (1)) hx hb dX1_flush_28 (by decide) ?_
      exact z_ret (v := nI (1)) (u := u25) Z Y (rfl) (by rw [spFlush_1 (show q < 2 ^ 31 by omega) hfo c18 hp]; exact ⟨rfl, hw⟩) dX1_flush_29
    · refine lv_iconst (v := nI (0)) hx hb dX1_flush_21 (by decide) ?_
      exact z_ret (v := nI (0)) (u := u) Z Y (rfl) (by rw [spFlush_0 hfo c18]; exact ⟨rfl, hR⟩) dX1_flush_22
  · refine lv_istore_n (lv' := [(2, .int ((-5))), (0, .ref (ga0 g)), (1, .int (x))]) hx hb dX1_flush_5 rfl hl (by decide) rfl (fun ls hl => ?_)
    refine lv_iload_n hx hb dX1_flush_6 rfl (lv_at hl 0 rfl) ?_
    refine lv_bipush (v := (-5)) hx hb dX1_flush_7 (by decide) ?_
    refine lv_icmp_eq (tgt := 21) hx hb dX1_flush_9 (by decide) (fun _ => ?_) (fun c9 => absurd (rfl) c9)
    refine lv_iconst (v := nI (0)) hx hb dX1_flush_21 (by decide) ?_
    exact z_ret (v := nI (0)) (u := u) Z Y (rfl) (by rw [spFlush_no hfo]; exact ⟨rfl, hR⟩) dX1_flush_22

set_option maxHeartbeats 4000000 in
set_option maxRecDepth 100000 in
theorem kX1_drop (l : Launch) (dC : Nat → ClassId) (dI : Nat → Nat → Nat) {g : GE} {N : Nat} {a : AS} {u : CS} (hR : Rep g N a u) (x : Int32) : zMI l yX1_drop wsX1_drop ({ frames := 1, cells := 0, slots := 0, locals := 22 }) dC dI 1 g u [.int (x)] (fun r u1 => r = (spDrop g a x).1 ∧ Rep g N (spDrop g a x).2 u1) := by
  refine zMI_of (cc := cX1_drop) (maxL := 3) (ret := (some .boolean)) (by decide) rfl (Nat.le_of_ble_eq_true rfl) ?_
  intro p e s m below meth c A ls Z Y hl
  have hin : ∀ w ∈ wsX10, w ∈ wsX1_drop := fun w h => List.mem_cons_of_mem _ (List.mem_append_right _ h)
  obtain ⟨hx, hb, hml, hown, hts, hr, hlk⟩ := id Z
  have L19 := hts (.fieldLink RX1 19 "FramePoolModel" "pins" "[I") (by decide +kernel)
  have hl : lv_has ls 3 [(0, .ref (ga0 g)), (1, .int (x))] := hl
  have hg := hR.1
  have hN := hR.2.1
  obtain ⟨b1, b2, b3, b4, b5, b6, b7⟩ := gokB hg
  obtain ⟨r3, r4, r5, r6, r7, r8, r9, r10, r11⟩ := id hR.2.2.1
  obtain ⟨i1, i2, i3, i4, i5⟩ := id hR.2.2.2
  refine lv_aload_n hx hb dX1_drop_0 rfl (lv_at hl 0 rfl) ?_
  refine lv_iload_n hx hb dX1_drop_1 rfl (lv_at hl 1 rfl) ?_
  refine z_callI (rest := []) Z Y rfl (kX1_frameOf l dC dI hR x) (cwV 1 hts gX1_drop_X1_frameOf rfl rfl rfl (by decide +kernel) ⟨Nat.le_of_ble_eq_true rfl, Nat.le_of_ble_eq_true rfl⟩) rfl hl.1 rfl (Nat.le_of_ble_eq_true rfl) dX1_drop_2 ⟨Nat.zero_le _, Nat.zero_le _⟩ (fun r2 u2 Hq lq hw Y => ?_)
  obtain ⟨rfl, hw⟩ := hw
  rcases hw with ⟨f, q, hf, hq, hxq, rfl, hp, hfo⟩ | ⟨rfl, hfo⟩
  · refine lv_istore_n (lv' := [(2, .int (nI (f))), (0, .ref (ga0 g)), (1, .int (x))]) hx hb dX1_drop_5 rfl hl (by decide) rfl (fun ls hl => ?_)
    refine lv_iload_n hx hb dX1_drop_6 rfl (lv_at hl 0 rfl) ?_
    refine lv_bipush (v := (-5)) hx hb dX1_drop_7 (by decide) ?_
    refine lv_icmp_eq (tgt := 21) hx hb dX1_drop_9 (by decide) (fun c9 => absurd c9 (nI_ne_m5 (show f < 2 ^ 31 by omega))) (fun _ => ?_)
    refine lv_aload_n hx hb dX1_drop_12 rfl (lv_at hl 1 rfl) ?_
    refine z_get (T := TX1) (v := .ref (ga6 g)) Z hin rfl Y 6 (by decide) L19 rfl rfl dX1_drop_13 ?_
    refine lv_iload_n hx hb dX1_drop_16 rfl (lv_at hl 0 rfl) ?_
    refine z_ld6 Z Y (f) (rfl) (by omega) (by omega) dX1_drop_17 ?_
    refine z_top (nI (apn a f)) (r6 f hf) ?_
    have hb6 : apn a f < 2 ^ 31 := by have := pn31 hR hf; omega
    refine lv_if_le (tgt := 23) hx hb dX1_drop_18 (by decide) (fun c18 => ?_) (fun c18 => ?_)
    · refine lv_aload_n hx hb dX1_drop_23 rfl (lv_at hl 1 rfl) ?_
      refine lv_iload_n hx hb dX1_drop_24 rfl (lv_at hl 0 rfl) ?_
      refine z_callV (rest := []) Z Y rfl (kX1_empty l dC dI hg u (show f < gn5 g by omega)) (cwV 1 hts gX1_drop_X1_empty rfl rfl rfl (by decide +kernel) ⟨Nat.le_of_ble_eq_true rfl, Nat.le_of_ble_eq_true rfl⟩) rfl hl.1 rfl (Nat.le_of_ble_eq_true rfl) dX1_drop_25 ⟨Nat.zero_le _, Nat.zero_le _⟩ (fun u25 Hq lq hw Y => ?_)
      subst hw
      refine lv_iconst (v := nI (1)) hx hb dX1_drop_28 (by decide) ?_
      exact z_ret (v := nI (1)) (u := (cs3 u, cs4 u, upd (cs5 u) f (-1), upd (cs6 u) f (nI 0), upd (cs7 u) f (nI 0), upd (cs8 u) f (nI 0), csh u, csr u, csw u)) Z Y (rfl) (by rw [spDrop_1 hfo (by have := (nI_le0 hb6).mp c18; omega)]; exact ⟨rfl, hg, hN, Rp_empty f hR.2.2.1, Iv_empty f hR.2.2.2⟩) dX1_drop_29
    · refine lv_iconst (v := nI (0)) hx hb dX1_drop_21 (by decide) ?_
      exact z_ret (v := nI (0)) (u := u) Z Y (rfl) (by rw [spDrop_0 hfo (Nat.pos_of_ne_zero (fun z => c18 ((nI_le0 hb6).mpr z)))]; exact ⟨rfl, hR⟩) dX1_drop_22
  · refine lv_istore_n (lv' := [(2, .int ((-5))), (0, .ref (ga0 g)), (1, .int (x))]) hx hb dX1_drop_5 rfl hl (by decide) rfl (fun ls hl => ?_)
    refine lv_iload_n hx hb dX1_drop_6 rfl (lv_at hl 0 rfl) ?_
    refine lv_bipush (v := (-5)) hx hb dX1_drop_7 (by decide) ?_
    refine lv_icmp_eq (tgt := 21) hx hb dX1_drop_9 (by decide) (fun _ => ?_) (fun c9 => absurd (rfl) c9)
    refine lv_iconst (v := nI (0)) hx hb dX1_drop_21 (by decide) ?_
    exact z_ret (v := nI (0)) (u := u) Z Y (rfl) (by rw [spDrop_no hfo]; exact ⟨rfl, hR⟩) dX1_drop_22

set_option maxHeartbeats 4000000 in
set_option maxRecDepth 100000 in
theorem kX1_flushAll (l : Launch) (dC : Nat → ClassId) (dI : Nat → Nat → Nat) {g : GE} {N : Nat} {a : AS} {u : CS} (hR : Rep g N a u) (hM : geS g = 8) : zMI l yX1_flushAll wsX1_flushAll ({ frames := 2, cells := 0, slots := 0, locals := 44 }) dC dI 1 g u [] (fun r u1 => r = nI (faN (geF g) 0 0 a).1 ∧ Rep g N (faN (geF g) 0 0 a).2 u1) := by
  refine zMI_of (cc := cX1_flushAll) (maxL := 3) (ret := (some .int)) (by decide) rfl (Nat.le_of_ble_eq_true rfl) ?_
  intro p e s m below meth c A ls Z Y hl
  have hin : ∀ w ∈ wsX10, w ∈ wsX1_flushAll := fun w h => List.mem_cons_of_mem _ (List.mem_append_right _ h)
  obtain ⟨hx, hb, hml, hown, hts, hr, hlk⟩ := id Z
  have L16 := hts (.fieldLink RX1 16 "FramePoolModel" "page" "[I") (by decide +kernel)
  have L29 := hts (.fieldLink RX1 29 "FramePoolModel" "frames" "I") (by decide +kernel)
  have hl : lv_has ls 3 [(0, .ref (ga0 g))] := hl
  have hg := hR.1
  have hN := hR.2.1
  obtain ⟨b1, b2, b3, b4, b5, b6, b7⟩ := gokB hg
  obtain ⟨r3, r4, r5, r6, r7, r8, r9, r10, r11⟩ := id hR.2.2.1
  obtain ⟨i1, i2, i3, i4, i5⟩ := id hR.2.2.2
  have b8 : geF g ≤ 32 := hg.2.1
  have loop : ∀ (R0 : Nat × AS) (n k k1 : Nat) (a : AS) (u : CS), k + n = geF g → Rep g N a u → faN n k k1 a = R0 → ∀ (H : Heap) (locs : List Loc), zW dC dI 1 g A s.heap s (u) H locs → ∀ ls : Array Slot, lv_has ls 3 [(0, .ref (ga0 g)), (1, .int (nI (k1))), (2, .int (nI (k)))] → W p l e ({ frames := 2, cells := 0, slots := 0, locals := 44 }) s m (Value.ref (ga0 g) :: []).toArray below meth c H locs 0 0 (zQI below dC dI 1 g A (fun r u1 => r = nI R0.1 ∧ Rep g N R0.2 u1) (Value.ref (ga0 g) :: []).toArray s) (F0 m 4 ls []) := by
    intro R0 n
    induction n with
    | zero =>
      intro k k1 a u hkn hR hF0 Hq lq Y ls hl
      refine lv_iload_n hx hb dX1_flushAll_4 rfl (lv_at hl 2 rfl) ?_
      refine lv_aload_n hx hb dX1_flushAll_5 rfl (lv_at hl 0 rfl) ?_
      refine z_get (T := TX1) (v := .int (nI (geF g))) Z hin rfl Y 0 (by decide) L29 rfl rfl dX1_flushAll_6 ?_
      refine lv_icmp_ge (tgt := 45) hx hb dX1_flushAll_9 (by decide) (fun _ => ?_) (fun c9 => absurd ((nI_leI (by omega) (by omega)).mpr (by omega)) c9)
      refine lv_iload_n hx hb dX1_flushAll_45 rfl (lv_at hl 1 rfl) ?_
      exact z_ret (v := nI (k1)) (u := u) Z Y (rfl) (by rw [← hF0]; exact ⟨rfl, hR⟩) dX1_flushAll_46
    | succ n ih =>
      intro k k1 a u hkn hR hF0 Hq lq Y ls hl
      have hkF : k < geF g := by omega
      obtain ⟨r3, r4, r5, r6, r7, r8, r9, r10, r11⟩ := id hR.2.2.1
      obtain ⟨i1, i2, i3, i4, i5⟩ := id hR.2.2.2
      refine lv_iload_n hx hb dX1_flushAll_4 rfl (lv_at hl 2 rfl) ?_
      refine lv_aload_n hx hb dX1_flushAll_5 rfl (lv_at hl 0 rfl) ?_
      refine z_get (T := TX1) (v := .int (nI (geF g))) Z hin rfl Y 0 (by decide) L29 rfl rfl dX1_flushAll_6 ?_
      refine lv_icmp_ge (tgt := 45) hx hb dX1_flushAll_9 (by decide) (fun c9 => absurd c9 (fun z => absurd ((nI_leI (by omega) (by omega)).mp z) (by omega))) (fun _ => ?_)
      refine lv_iload_n hx hb dX1_flushAll_12 rfl (lv_at hl 1 rfl) ?_
      refine lv_aload_n hx hb dX1_flushAll_13 rfl (lv_at hl 0 rfl) ?_
      refine z_get (T := TX1) (v := .ref (ga5 g)) Z hin rfl Y 5 (by decide) L16 rfl rfl dX1_flushAll_14 ?_
      refine lv_iload_n hx hb dX1_flushAll_17 rfl (lv_at hl 2 rfl) ?_
      refine z_ld5 Z Y (k) (rfl) (by omega) (by omega) dX1_flushAll_18 ?_
      refine z_top (apg a k) (r5 k hkF) ?_
      refine lv_iconst (v := (-1)) hx hb dX1_flushAll_19 (by decide) ?_
      refine lv_icmp_ne (tgt := 27) hx hb dX1_flushAll_20 (by decide) (fun c20 => ?_) (fun c20 => ?_)
      · obtain ⟨q, hq, hpq⟩ : ∃ q, q < geP g ∧ apg a k = nI q := (i2 k hkF).resolve_left c20
        have hfo := fop_some hg hR.2.2.2 hkF hq hpq
        refine lv_aload_n hx hb dX1_flushAll_27 rfl (lv_at hl 0 rfl) ?_
        refine lv_aload_n hx hb dX1_flushAll_28 rfl (lv_at hl 0 rfl) ?_
        refine z_get (T := TX1) (v := .ref (ga5 g)) Z hin rfl Y 5 (by decide) L16 rfl rfl dX1_flushAll_29 ?_
        refine lv_iload_n hx hb dX1_flushAll_32 rfl (lv_at hl 2 rfl) ?_
        refine z_ld5 Z Y (k) (rfl) (by omega) (by omega) dX1_flushAll_33 ?_
        refine z_top (nI (q)) ((r5 k hkF).trans hpq) ?_
        refine z_callI (rest := [.int (nI (k1))]) Z Y rfl (kX1_flush l dC dI hR hM (nI q)) (cwV 1 hts gX1_flushAll_X1_flush rfl rfl rfl (by decide +kernel) ⟨Nat.le_of_ble_eq_true rfl, Nat.le_of_ble_eq_true rfl⟩) rfl hl.1 rfl (Nat.le_of_ble_eq_true rfl) dX1_flushAll_34 ⟨Nat.zero_le _, Nat.zero_le _⟩ (fun r34 u34 Hq lq hw Y => ?_)
        by_cases hd : adt a k = 0
        · rw [spFlush_0 hfo hd] at hw
          obtain ⟨rfl, hw⟩ := hw
          refine lv_iadd hx hb dX1_flushAll_37 ?_
          refine z_top (nI ((k1) + (0))) (nI_add (k1) (0)) ?_
          refine lv_istore_n (lv' := [(1, .int (nI ((k1) + (0)))), (0, .ref (ga0 g)), (2, .int (nI (k)))]) hx hb dX1_flushAll_38 rfl hl (by decide) rfl (fun ls hl => ?_)
          refine lv_iinc (v := nI (k + 1)) (lv' := [(2, .int (nI (k + 1))), (1, .int (nI ((k1) + (0)))), (0, .ref (ga0 g))]) hx hb dX1_flushAll_39 hl (k := 2) rfl (nI_add (k) 1) (by decide) rfl (fun ls hl => ?_)
          refine lv_goto (tgt := 4) hx hb dX1_flushAll_42 (by decide) ?_
          exact ih (k + 1) k1 a _ (by omega) hw (by rw [← hF0, faN_0 hd]) _ _ Y ls (lv_sub hl [2, 1, 0] rfl)
        · rw [spFlush_1 (show q < 2 ^ 31 by omega) hfo hd hpq] at hw
          obtain ⟨rfl, hw⟩ := hw
          refine lv_iadd hx hb dX1_flushAll_37 ?_
          refine z_top (nI ((k1) + (1))) (nI_add (k1) (1)) ?_
          refine lv_istore_n (lv' := [(1, .int (nI ((k1) + (1)))), (0, .ref (ga0 g)), (2, .int (nI (k)))]) hx hb dX1_flushAll_38 rfl hl (by decide) rfl (fun ls hl => ?_)
          refine lv_iinc (v := nI (k + 1)) (lv' := [(2, .int (nI (k + 1))), (1, .int (nI ((k1) + (1)))), (0, .ref (ga0 g))]) hx hb dX1_flushAll_39 hl (k := 2) rfl (nI_add (k) 1) (by decide) rfl (fun ls hl => ?_)
          refine lv_goto (tgt := 4) hx hb dX1_flushAll_42 (by decide) ?_
          exact ih (k + 1) (k1 + 1) _ _ (by omega) hw (by rw [← hF0, faN_1 (show q < 2 ^ 31 by omega) hd hpq]) _ _ Y ls (lv_sub hl [2, 1, 0] rfl)
      · refine lv_iconst (v := nI (0)) hx hb dX1_flushAll_23 (by decide) ?_
        refine lv_goto (tgt := 37) hx hb dX1_flushAll_24 (by decide) ?_
        refine lv_iadd hx hb dX1_flushAll_37 ?_
        refine z_top (nI ((k1) + (0))) (nI_add (k1) (0)) ?_
        refine lv_istore_n (lv' := [(1, .int (nI ((k1) + (0)))), (0, .ref (ga0 g)), (2, .int (nI (k)))]) hx hb dX1_flushAll_38 rfl hl (by decide) rfl (fun ls hl => ?_)
        refine lv_iinc (v := nI (k + 1)) (lv' := [(2, .int (nI (k + 1))), (1, .int (nI ((k1) + (0)))), (0, .ref (ga0 g))]) hx hb dX1_flushAll_39 hl (k := 2) rfl (nI_add (k) 1) (by decide) rfl (fun ls hl => ?_)
        refine lv_goto (tgt := 4) hx hb dX1_flushAll_42 (by decide) ?_
        exact ih (k + 1) k1 a u (by omega) hR (by rw [← hF0, faN_0 ((i4 k hkF c20).2.1.trans nI_0)]) _ _ Y ls (lv_sub hl [2, 1, 0] rfl)
  refine lv_iconst (v := nI (0)) hx hb dX1_flushAll_0 (by decide) ?_
  refine lv_istore_n (lv' := [(1, .int (nI (0))), (0, .ref (ga0 g))]) hx hb dX1_flushAll_1 rfl hl (by decide) rfl (fun ls hl => ?_)
  refine lv_iconst (v := nI (0)) hx hb dX1_flushAll_2 (by decide) ?_
  refine lv_istore_n (lv' := [(2, .int (nI (0))), (1, .int (nI (0))), (0, .ref (ga0 g))]) hx hb dX1_flushAll_3 rfl hl (by decide) rfl (fun ls hl => ?_)
  exact loop _ (geF g) 0 0 a u (by omega) hR rfl _ _ Y ls (lv_sub hl [2, 1, 0] rfl)

set_option maxHeartbeats 4000000 in
set_option maxRecDepth 100000 in
theorem kX1_copy (l : Launch) (dC : Nat → ClassId) (dI : Nat → Nat → Nat) {g : GE} {N : Nat} {a : AS} {u : CS} (hR : Rep g N a u) (hM : geS g = 8) (x y : Int32) : zMI l yX1_copy wsX1_copy ({ frames := 1, cells := 0, slots := 0, locals := 22 }) dC dI 1 g u [.int (x), .int (y)] (fun r u1 => r = (spCopy g a x y).1 ∧ Rep g N (spCopy g a x y).2 u1) := by
  refine zMI_of (cc := cX1_copy) (maxL := 6) (ret := (some .int)) (by decide) rfl (Nat.le_of_ble_eq_true rfl) ?_
  intro p e s m below meth c A ls Z Y hl
  have hin : ∀ w ∈ wsX10, w ∈ wsX1_copy := fun w h => List.mem_cons_of_mem _ (List.mem_append_right _ h)
  obtain ⟨hx, hb, hml, hown, hts, hr, hlk⟩ := id Z
  have L7 := hts (.fieldLink RX1 7 "FramePoolModel" "disk" "[I") (by decide +kernel)
  have L13 := hts (.fieldLink RX1 13 "FramePoolModel" "memory" "[I") (by decide +kernel)
  have L19 := hts (.fieldLink RX1 19 "FramePoolModel" "pins" "[I") (by decide +kernel)
  have L22 := hts (.fieldLink RX1 22 "FramePoolModel" "dirty" "[Z") (by decide +kernel)
  have L36 := hts (.fieldLink RX1 36 "FramePoolModel" "words" "I") (by decide +kernel)
  have hl : lv_has ls 6 [(0, .ref (ga0 g)), (1, .int (x)), (2, .int (y))] := hl
  have hg := hR.1
  have hN := hR.2.1
  obtain ⟨b1, b2, b3, b4, b5, b6, b7⟩ := gokB hg
  obtain ⟨r3, r4, r5, r6, r7, r8, r9, r10, r11⟩ := id hR.2.2.1
  obtain ⟨i1, i2, i3, i4, i5⟩ := id hR.2.2.2
  refine lv_aload_n hx hb dX1_copy_0 rfl (lv_at hl 0 rfl) ?_
  refine lv_iload_n hx hb dX1_copy_1 rfl (lv_at hl 1 rfl) ?_
  refine z_callI (rest := []) Z Y rfl (kX1_isPage l dC dI hg u x) (cwV 1 hts gX1_copy_X1_isPage rfl rfl rfl (by decide +kernel) ⟨Nat.le_of_ble_eq_true rfl, Nat.le_of_ble_eq_true rfl⟩) rfl hl.1 rfl (Nat.le_of_ble_eq_true rfl) dX1_copy_2 ⟨Nat.zero_le _, Nat.zero_le _⟩ (fun r2 u2 Hq lq hw Y => ?_)
  obtain ⟨rfl, hw⟩ := hw
  rcases hw with ⟨rfl, hw2⟩ | ⟨rfl, hw2⟩
  · refine lv_if_eq (tgt := 16) hx hb dX1_copy_5 (by decide) (fun c5 => absurd c5 (by decide)) (fun _ => ?_)
    refine lv_aload_n hx hb dX1_copy_8 rfl (lv_at hl 0 rfl) ?_
    refine lv_iload_n hx hb dX1_copy_9 rfl (lv_at hl 2 rfl) ?_
    refine z_callI (rest := []) Z Y rfl (kX1_isPage l dC dI hg u y) (cwV 1 hts gX1_copy_X1_isPage rfl rfl rfl (by decide +kernel) ⟨Nat.le_of_ble_eq_true rfl, Nat.le_of_ble_eq_true rfl⟩) rfl hl.1 rfl (Nat.le_of_ble_eq_true rfl) dX1_copy_10 ⟨Nat.zero_le _, Nat.zero_le _⟩ (fun r10 u10 Hq lq hw Y => ?_)
    obtain ⟨rfl, hw⟩ := hw
    rcases hw with ⟨rfl, hw10⟩ | ⟨rfl, hw10⟩
    · obtain ⟨q, hq, rfl⟩ := vp_in_of hw10 b2
      refine lv_if_ne (tgt := 19) hx hb dX1_copy_13 (by decide) (fun _ => ?_) (fun c13 => absurd c13 (by decide))
      refine lv_aload_n hx hb dX1_copy_19 rfl (lv_at hl 0 rfl) ?_
      refine lv_iload_n hx hb dX1_copy_20 rfl (lv_at hl 1 rfl) ?_
      refine z_callI (rest := []) Z Y rfl (kX1_frameOf l dC dI hR x) (cwV 1 hts gX1_copy_X1_frameOf rfl rfl rfl (by decide +kernel) ⟨Nat.le_of_ble_eq_true rfl, Nat.le_of_ble_eq_true rfl⟩) rfl hl.1 rfl (Nat.le_of_ble_eq_true rfl) dX1_copy_21 ⟨Nat.zero_le _, Nat.zero_le _⟩ (fun r21 u21 Hq lq hw Y => ?_)
      obtain ⟨rfl, hw⟩ := hw
      rcases hw with ⟨f, q21, hf21, hq21, hx21, rfl, hp21, hfo21⟩ | ⟨rfl, hfo21⟩
      · refine lv_istore_n (lv' := [(3, .int (nI (f))), (0, .ref (ga0 g)), (1, .int (x)), (2, .int (nI (q)))]) hx hb dX1_copy_24 rfl hl (by decide) rfl (fun ls hl => ?_)
        refine lv_iload_n hx hb dX1_copy_25 rfl (lv_at hl 0 rfl) ?_
        refine lv_bipush (v := (-5)) hx hb dX1_copy_26 (by decide) ?_
        refine lv_icmp_eq (tgt := 40) hx hb dX1_copy_28 (by decide) (fun c28 => absurd c28 (nI_ne_m5 (show f < 2 ^ 31 by omega))) (fun _ => ?_)
        refine lv_aload_n hx hb dX1_copy_31 rfl (lv_at hl 1 rfl) ?_
        refine z_get (T := TX1) (v := .ref (ga6 g)) Z hin rfl Y 6 (by decide) L19 rfl rfl dX1_copy_32 ?_
        refine lv_iload_n hx hb dX1_copy_35 rfl (lv_at hl 0 rfl) ?_
        refine z_ld6 Z Y (f) (rfl) (by omega) (by omega) dX1_copy_36 ?_
        refine z_top (nI (apn a f)) (r6 f hf21) ?_
        have hb6 : apn a f < 2 ^ 31 := by have := pn31 hR hf21; omega
        refine lv_if_ne (tgt := 43) hx hb dX1_copy_37 (by decide) (fun c37 => ?_) (fun c37 => ?_)
        · have h0 : 0 < apn a f := Nat.pos_of_ne_zero (fun z => c37 ((nI_eq0 hb6).mpr z))
          refine lv_aload_n hx hb dX1_copy_43 rfl (lv_at hl 1 rfl) ?_
          refine lv_iload_n hx hb dX1_copy_44 rfl (lv_at hl 3 rfl) ?_
          refine z_callI (rest := []) Z Y rfl (kX1_frameOf l dC dI hR (nI q)) (cwV 1 hts gX1_copy_X1_frameOf rfl rfl rfl (by decide +kernel) ⟨Nat.le_of_ble_eq_true rfl, Nat.le_of_ble_eq_true rfl⟩) rfl hl.1 rfl (Nat.le_of_ble_eq_true rfl) dX1_copy_45 ⟨Nat.zero_le _, Nat.zero_le _⟩ (fun r45 u45 Hq lq hw Y => ?_)
          obtain ⟨rfl, hw⟩ := hw
          rcases hw with ⟨k2, q45, hf45, hq45, hx45, rfl, hp45, hfo45⟩ | ⟨rfl, hfo45⟩
          · refine lv_istore (lv' := [(4, .int (nI (k2))), (3, .int (nI (f))), (0, .ref (ga0 g)), (1, .int (x)), (2, .int (nI (q)))]) hx hb dX1_copy_48 hl (by decide) rfl (fun ls hl => ?_)
            refine lv_iconst (v := nI (0)) hx hb dX1_copy_50 (by decide) ?_
            refine lv_istore (lv' := [(5, .int (nI (0))), (4, .int (nI (k2))), (3, .int (nI (f))), (0, .ref (ga0 g)), (1, .int (x)), (2, .int (nI (q)))]) hx hb dX1_copy_51 hl (by decide) rfl (fun ls hl => ?_)
            have loop : ∀ (n k : Nat), k + n = geW g → ∀ (H : Heap) (locs : List Loc), zW dC dI 1 g A s.heap s (ps4 u (va_cpy (cs4 u) (cs4 u) (k2 * geS g) (f * geS g) k)) H locs → ∀ ls : Array Slot, lv_has ls 6 [(0, .ref (ga0 g)), (1, .int (x)), (2, .int (nI (q))), (3, .int (nI (f))), (4, .int (nI (k2))), (5, .int (nI (k)))] → W p l e ({ frames := 1, cells := 0, slots := 0, locals := 22 }) s m (Value.ref (ga0 g) :: [.int (x), .int (nI (q))]).toArray below meth c H locs 0 0 (zQI below dC dI 1 g A (fun r u1 => r = (spCopy g a x (nI q)).1 ∧ Rep g N (spCopy g a x (nI q)).2 u1) (Value.ref (ga0 g) :: [.int (x), .int (nI (q))]).toArray s) (F0 m 53 ls []) := by
              intro n
              induction n with
              | zero =>
                intro k hkn Hq lq Y ls hl
                obtain rfl : k = geW g := hkn
                refine lv_iload hx hb dX1_copy_53 (lv_at hl 5 rfl) ?_
                refine lv_aload_n hx hb dX1_copy_55 rfl (lv_at hl 0 rfl) ?_
                refine z_get (T := TX1) (v := .int (nI (geW g))) Z hin rfl Y 2 (by decide) L36 rfl rfl dX1_copy_56 ?_
                refine lv_icmp_ge (tgt := 115) hx hb dX1_copy_59 (by decide) (fun _ => ?_) (fun c59 => absurd ((nI_leI b3 (by omega)).mpr (by omega)) c59)
                refine lv_aload_n hx hb dX1_copy_115 rfl (lv_at hl 0 rfl) ?_
                refine z_get (T := TX1) (v := .ref (ga7 g)) Z hin rfl Y 7 (by decide) L22 rfl rfl dX1_copy_116 ?_
                refine lv_iload_n hx hb dX1_copy_119 rfl (lv_at hl 3 rfl) ?_
                refine lv_iconst (v := nI (1)) hx hb dX1_copy_120 (by decide) ?_
                refine z_st7 (x := nI (1)) Z Y (f) (rfl) (by omega) (by omega) (by decide) dX1_copy_121 (fun Hq lq Y => ?_)
                refine lv_iconst (v := nI (0)) hx hb dX1_copy_122 (by decide) ?_
                exact z_ret (v := nI (0)) (u := ps7 (ps4 u (va_cpy (cs4 u) (cs4 u) (k2 * geS g) (f * geS g) (geW g))) (upd (cs7 (ps4 u (va_cpy (cs4 u) (cs4 u) (k2 * geS g) (f * geS g) (geW g)))) (f) (nI (1)))) Z Y (rfl) (by rw [spCopy_m ⟨hw2, hw10⟩ hfo21 h0 hfo45]; exact ⟨rfl, hg, hN, Rp_rowM f hg hf45 hR.2.2.1, Iv_row _ (pn_pg hR.2.2.2 hf21 h0) hR.2.2.2⟩) dX1_copy_123
              | succ n ih =>
                intro k hkn Hq lq Y ls hl
                have hkW : k < geW g := by omega
                have e0 := cpy_step (f := cs4 u) (g := cs4 u) (sp := k2 * geS g) (dp := f * geS g) (n := k) rfl
                refine lv_iload hx hb dX1_copy_53 (lv_at hl 5 rfl) ?_
                refine lv_aload_n hx hb dX1_copy_55 rfl (lv_at hl 0 rfl) ?_
                refine z_get (T := TX1) (v := .int (nI (geW g))) Z hin rfl Y 2 (by decide) L36 rfl rfl dX1_copy_56 ?_
                refine lv_icmp_ge (tgt := 115) hx hb dX1_copy_59 (by decide) (fun c59 => absurd c59 (fun z => absurd ((nI_leI b3 (by omega)).mp z) (by omega))) (fun _ => ?_)
                refine lv_aload_n hx hb dX1_copy_62 rfl (lv_at hl 0 rfl) ?_
                refine z_get (T := TX1) (v := .ref (ga4 g)) Z hin rfl Y 4 (by decide) L13 rfl rfl dX1_copy_63 ?_
                refine lv_bipush (v := nI (8)) hx hb dX1_copy_66 (by decide) ?_
                refine lv_iload_n hx hb dX1_copy_68 rfl (lv_at hl 3 rfl) ?_
                refine lv_imul hx hb dX1_copy_69 ?_
                refine z_top (nI (f * geS g)) (m8 hM) ?_
                refine lv_iload hx hb dX1_copy_70 (lv_at hl 5 rfl) ?_
                refine lv_iadd hx hb dX1_copy_72 ?_
                refine z_top (nI ((f * geS g) + (k))) (nI_add (f * geS g) (k)) ?_
                refine lv_iload hx hb dX1_copy_73 (lv_at hl 4 rfl) ?_
                refine lv_bipush (v := (-5)) hx hb dX1_copy_75 (by decide) ?_
                refine lv_icmp_ne (tgt := 95) hx hb dX1_copy_77 (by decide) (fun _ => ?_) (fun c77 => absurd c77 (nI_ne_m5 (show k2 < 2 ^ 31 by omega)))
                refine lv_aload_n hx hb dX1_copy_95 rfl (lv_at hl 0 rfl) ?_
                refine z_get (T := TX1) (v := .ref (ga4 g)) Z hin rfl Y 4 (by decide) L13 rfl rfl dX1_copy_96 ?_
                refine lv_bipush (v := nI (8)) hx hb dX1_copy_99 (by decide) ?_
                refine lv_iload hx hb dX1_copy_101 (lv_at hl 4 rfl) ?_
                refine lv_imul hx hb dX1_copy_103 ?_
                refine z_top (nI (k2 * geS g)) (m8 hM) ?_
                refine lv_iload hx hb dX1_copy_104 (lv_at hl 5 rfl) ?_
                refine lv_iadd hx hb dX1_copy_106 ?_
                refine z_top (nI ((k2 * geS g) + (k))) (nI_add (k2 * geS g) (k)) ?_
                refine z_ld4 Z Y ((k2 * geS g) + (k)) (rfl) (lt4 hg hf45 hkW rfl) (by omega) dX1_copy_107 ?_
                refine z_top (cs4 u (k2 * geS g + k)) (cpy_self hkW hg.2.2.2.2.2.2.1) ?_
                refine z_st4 (x := cs4 u (k2 * geS g + k)) Z Y ((f * geS g) + (k)) (rfl) (lt4 hg hf21 hkW rfl) (by omega) dX1_copy_108 (fun Hq lq Y => ?_)
                refine lv_iinc (v := nI (k + 1)) (lv' := [(5, .int (nI (k + 1))), (0, .ref (ga0 g)), (1, .int (x)), (2, .int (nI (q))), (3, .int (nI (f))), (4, .int (nI (k2)))]) hx hb dX1_copy_109 hl (k := 5) rfl (nI_add (k) 1) (by decide) rfl (fun ls hl => ?_)
                refine lv_goto (tgt := 53) hx hb dX1_copy_112 (by decide) ?_
                exact ih (k + 1) (by omega) _ _ (by rw [← e0]; exact Y) ls (lv_sub hl [1, 2, 3, 4, 5, 0] rfl)
            exact loop (geW g) 0 (by omega) _ _ (by rw [cpy_0]; exact Y) ls (lv_sub hl [3, 4, 5, 2, 1, 0] rfl)
          · refine lv_istore (lv' := [(4, .int ((-5))), (3, .int (nI (f))), (0, .ref (ga0 g)), (1, .int (x)), (2, .int (nI (q)))]) hx hb dX1_copy_48 hl (by decide) rfl (fun ls hl => ?_)
            refine lv_iconst (v := nI (0)) hx hb dX1_copy_50 (by decide) ?_
            refine lv_istore (lv' := [(5, .int (nI (0))), (4, .int ((-5))), (3, .int (nI (f))), (0, .ref (ga0 g)), (1, .int (x)), (2, .int (nI (q)))]) hx hb dX1_copy_51 hl (by decide) rfl (fun ls hl => ?_)
            have loop : ∀ (n k : Nat), k + n = geW g → ∀ (H : Heap) (locs : List Loc), zW dC dI 1 g A s.heap s (ps4 u (va_cpy (cs3 u) (cs4 u) (q * geS g) (f * geS g) k)) H locs → ∀ ls : Array Slot, lv_has ls 6 [(0, .ref (ga0 g)), (1, .int (x)), (2, .int (nI (q))), (3, .int (nI (f))), (4, .int ((-5))), (5, .int (nI (k)))] → W p l e ({ frames := 1, cells := 0, slots := 0, locals := 22 }) s m (Value.ref (ga0 g) :: [.int (x), .int (nI (q))]).toArray below meth c H locs 0 0 (zQI below dC dI 1 g A (fun r u1 => r = (spCopy g a x (nI q)).1 ∧ Rep g N (spCopy g a x (nI q)).2 u1) (Value.ref (ga0 g) :: [.int (x), .int (nI (q))]).toArray s) (F0 m 53 ls []) := by
              intro n
              induction n with
              | zero =>
                intro k hkn Hq lq Y ls hl
                obtain rfl : k = geW g := hkn
                refine lv_iload hx hb dX1_copy_53 (lv_at hl 5 rfl) ?_
                refine lv_aload_n hx hb dX1_copy_55 rfl (lv_at hl 0 rfl) ?_
                refine z_get (T := TX1) (v := .int (nI (geW g))) Z hin rfl Y 2 (by decide) L36 rfl rfl dX1_copy_56 ?_
                refine lv_icmp_ge (tgt := 115) hx hb dX1_copy_59 (by decide) (fun _ => ?_) (fun c59 => absurd ((nI_leI b3 (by omega)).mpr (by omega)) c59)
                refine lv_aload_n hx hb dX1_copy_115 rfl (lv_at hl 0 rfl) ?_
                refine z_get (T := TX1) (v := .ref (ga7 g)) Z hin rfl Y 7 (by decide) L22 rfl rfl dX1_copy_116 ?_
                refine lv_iload_n hx hb dX1_copy_119 rfl (lv_at hl 3 rfl) ?_
                refine lv_iconst (v := nI (1)) hx hb dX1_copy_120 (by decide) ?_
                refine z_st7 (x := nI (1)) Z Y (f) (rfl) (by omega) (by omega) (by decide) dX1_copy_121 (fun Hq lq Y => ?_)
                refine lv_iconst (v := nI (0)) hx hb dX1_copy_122 (by decide) ?_
                exact z_ret (v := nI (0)) (u := ps7 (ps4 u (va_cpy (cs3 u) (cs4 u) (q * geS g) (f * geS g) (geW g))) (upd (cs7 (ps4 u (va_cpy (cs3 u) (cs4 u) (q * geS g) (f * geS g) (geW g)))) (f) (nI (1)))) Z Y (rfl) (by rw [spCopy_d (show q < 2 ^ 31 by omega) ⟨hw2, hw10⟩ hfo21 h0 hfo45]; exact ⟨rfl, hg, hN, Rp_rowD f hg hq hR.2.2.1, Iv_row _ (pn_pg hR.2.2.2 hf21 h0) hR.2.2.2⟩) dX1_copy_123
              | succ n ih =>
                intro k hkn Hq lq Y ls hl
                have hkW : k < geW g := by omega
                have e0 := cpy_step (f := cs3 u) (g := cs4 u) (sp := q * geS g) (dp := f * geS g) (n := k) rfl
                refine lv_iload hx hb dX1_copy_53 (lv_at hl 5 rfl) ?_
                refine lv_aload_n hx hb dX1_copy_55 rfl (lv_at hl 0 rfl) ?_
                refine z_get (T := TX1) (v := .int (nI (geW g))) Z hin rfl Y 2 (by decide) L36 rfl rfl dX1_copy_56 ?_
                refine lv_icmp_ge (tgt := 115) hx hb dX1_copy_59 (by decide) (fun c59 => absurd c59 (fun z => absurd ((nI_leI b3 (by omega)).mp z) (by omega))) (fun _ => ?_)
                refine lv_aload_n hx hb dX1_copy_62 rfl (lv_at hl 0 rfl) ?_
                refine z_get (T := TX1) (v := .ref (ga4 g)) Z hin rfl Y 4 (by decide) L13 rfl rfl dX1_copy_63 ?_
                refine lv_bipush (v := nI (8)) hx hb dX1_copy_66 (by decide) ?_
                refine lv_iload_n hx hb dX1_copy_68 rfl (lv_at hl 3 rfl) ?_
                refine lv_imul hx hb dX1_copy_69 ?_
                refine z_top (nI (f * geS g)) (m8 hM) ?_
                refine lv_iload hx hb dX1_copy_70 (lv_at hl 5 rfl) ?_
                refine lv_iadd hx hb dX1_copy_72 ?_
                refine z_top (nI ((f * geS g) + (k))) (nI_add (f * geS g) (k)) ?_
                refine lv_iload hx hb dX1_copy_73 (lv_at hl 4 rfl) ?_
                refine lv_bipush (v := (-5)) hx hb dX1_copy_75 (by decide) ?_
                refine lv_icmp_ne (tgt := 95) hx hb dX1_copy_77 (by decide) (fun c77 => absurd (rfl) c77) (fun _ => ?_)
                refine lv_aload_n hx hb dX1_copy_80 rfl (lv_at hl 0 rfl) ?_
                refine z_get (T := TX1) (v := .ref (ga3 g)) Z hin rfl Y 3 (by decide) L7 rfl rfl dX1_copy_81 ?_
                refine lv_bipush (v := nI (8)) hx hb dX1_copy_84 (by decide) ?_
                refine lv_iload_n hx hb dX1_copy_86 rfl (lv_at hl 2 rfl) ?_
                refine lv_imul hx hb dX1_copy_87 ?_
                refine z_top (nI (q * geS g)) (m8 hM) ?_
                refine lv_iload hx hb dX1_copy_88 (lv_at hl 5 rfl) ?_
                refine lv_iadd hx hb dX1_copy_90 ?_
                refine z_top (nI ((q * geS g) + (k))) (nI_add (q * geS g) (k)) ?_
                refine z_ld3 Z Y ((q * geS g) + (k)) (rfl) (lt3 hg hq hkW rfl) (by omega) dX1_copy_91 ?_
                refine lv_goto (tgt := 108) hx hb dX1_copy_92 (by decide) ?_
                refine z_st4 (x := cs3 (ps4 u (va_cpy (cs3 u) (cs4 u) (q * geS g) (f * geS g) k)) ((q * geS g) + (k))) Z Y ((f * geS g) + (k)) (rfl) (lt4 hg hf21 hkW rfl) (by omega) dX1_copy_108 (fun Hq lq Y => ?_)
                refine lv_iinc (v := nI (k + 1)) (lv' := [(5, .int (nI (k + 1))), (0, .ref (ga0 g)), (1, .int (x)), (2, .int (nI (q))), (3, .int (nI (f))), (4, .int ((-5)))]) hx hb dX1_copy_109 hl (k := 5) rfl (nI_add (k) 1) (by decide) rfl (fun ls hl => ?_)
                refine lv_goto (tgt := 53) hx hb dX1_copy_112 (by decide) ?_
                exact ih (k + 1) (by omega) _ _ (by rw [← e0]; exact Y) ls (lv_sub hl [1, 2, 3, 4, 5, 0] rfl)
            exact loop (geW g) 0 (by omega) _ _ (by rw [cpy_0]; exact Y) ls (lv_sub hl [3, 4, 5, 2, 1, 0] rfl)
        · refine lv_bipush (v := (-3)) hx hb dX1_copy_40 (by decide) ?_
          exact z_ret (v := (-3)) (u := u) Z Y (rfl) (by rw [spCopy_up ⟨hw2, hw10⟩ hfo21 (by have := (nI_eq0 hb6).mp c37; omega)]; exact ⟨rfl, hR⟩) dX1_copy_42
      · refine lv_istore_n (lv' := [(3, .int ((-5))), (0, .ref (ga0 g)), (1, .int (x)), (2, .int (nI (q)))]) hx hb dX1_copy_24 rfl hl (by decide) rfl (fun ls hl => ?_)
        refine lv_iload_n hx hb dX1_copy_25 rfl (lv_at hl 0 rfl) ?_
        refine lv_bipush (v := (-5)) hx hb dX1_copy_26 (by decide) ?_
        refine lv_icmp_eq (tgt := 40) hx hb dX1_copy_28 (by decide) (fun _ => ?_) (fun c28 => absurd (rfl) c28)
        refine lv_bipush (v := (-3)) hx hb dX1_copy_40 (by decide) ?_
        exact z_ret (v := (-3)) (u := u) Z Y (rfl) (by rw [spCopy_no ⟨hw2, hw10⟩ hfo21]; exact ⟨rfl, hR⟩) dX1_copy_42
    · refine lv_if_ne (tgt := 19) hx hb dX1_copy_13 (by decide) (fun c13 => absurd (by decide) c13) (fun _ => ?_)
      refine lv_bipush (v := (-2)) hx hb dX1_copy_16 (by decide) ?_
      exact z_ret (v := (-2)) (u := u) Z Y (rfl) (by rw [spCopy_bad (fun z => hw10 z.2)]; exact ⟨rfl, hR⟩) dX1_copy_18
  · refine lv_if_eq (tgt := 16) hx hb dX1_copy_5 (by decide) (fun _ => ?_) (fun c5 => absurd (by decide) c5)
    refine lv_bipush (v := (-2)) hx hb dX1_copy_16 (by decide) ?_
    exact z_ret (v := (-2)) (u := u) Z Y (rfl) (by rw [spCopy_bad (fun z => hw2 z.1)]; exact ⟨rfl, hR⟩) dX1_copy_18

set_option maxHeartbeats 4000000 in
set_option maxRecDepth 100000 in
theorem kX1_init_ (l : Launch) (dC : Nat → ClassId) (dI : Nat → Nat → Nat) {g : GE} (hg : gok g) (h3 : gn3 g = 1600) (h5 : gn5 g = 32) (u : CS) : zMV l yX1_init_ wsX1_init_ ({ frames := 1, cells := 0, slots := 0, locals := 21 }) dC dI 1 g u [] (fun u1 => iniP g 32 u u1) := by
  refine zMV_of (cc := cX1_init_) (maxL := 2) (ret := none) (by decide) rfl (Nat.le_of_ble_eq_true rfl) ?_
  intro p e s m below meth c A ls Z Y hl
  have hin : ∀ w ∈ wsX10, w ∈ wsX1_init_ := fun w h => List.mem_cons_of_mem _ (List.mem_append_right _ h)
  obtain ⟨hx, hb, hml, hown, hts, hr, hlk⟩ := id Z
  have L7 := hts (.fieldLink RX1 7 "FramePoolModel" "disk" "[I") (by decide +kernel)
  have L46 := hts (.fieldLink RX1 46 "FramePoolModel" "at" "I") (by decide +kernel)
  have L49 := hts (.fieldLink RX1 49 "FramePoolModel" "reads" "I") (by decide +kernel)
  have L52 := hts (.fieldLink RX1 52 "FramePoolModel" "writes" "I") (by decide +kernel)
  have hl : lv_has ls 2 [(0, .ref (ga0 g))] := hl
  obtain ⟨b1, b2, b3, b4, b5, b6, b7⟩ := gokB hg
  have g3 := h3
  have g5 := h5
  clear h3 h5
  have loop2 : ∀ (n k : Nat) (u2 : CS), k + n = 32 → cs4 u2 = cs4 u → (∀ j, j < gn3 g → cs3 u2 j = nI 0) → (∀ f, f < k → cs5 u2 f = -1 ∧ cs6 u2 f = nI 0 ∧ cs7 u2 f = nI 0 ∧ cs8 u2 f = nI 0) → ∀ (H : Heap) (locs : List Loc), zW dC dI 1 g A s.heap s (u2) H locs → ∀ ls : Array Slot, lv_has ls 2 [(0, .ref (ga0 g)), (1, .int (nI (k)))] → W p l e ({ frames := 1, cells := 0, slots := 0, locals := 21 }) s m (Value.ref (ga0 g) :: []).toArray below meth c H locs 0 0 (zQV below dC dI 1 g A (fun u1 => iniP g 32 u u1) (Value.ref (ga0 g) :: []).toArray s) (F0 m 24 ls []) := by
    intro n
    induction n with
    | zero =>
      intro k u2 hkn h4 h3 h5 Hq lq Y ls hl
      refine lv_iload_n hx hb dX1_init__24 rfl (lv_at hl 1 rfl) ?_
      refine lv_bipush (v := nI (32)) hx hb dX1_init__25 (by decide) ?_
      refine lv_icmp_ge (tgt := 41) hx hb dX1_init__27 (by decide) (fun _ => ?_) (fun c27 => absurd ((nI_leI (by omega) (by omega)).mpr (by omega)) c27)
      refine lv_aload_n hx hb dX1_init__41 rfl (lv_at hl 0 rfl) ?_
      refine lv_iconst (v := nI (0)) hx hb dX1_init__42 (by decide) ?_
      refine z_puth (T := TX1) (v := nI (0)) Z hin tyX1_ok nmX1 rfl Y L46 rfl rfl rfl dX1_init__43 (fun Hq lq Y => ?_)
      refine lv_aload_n hx hb dX1_init__46 rfl (lv_at hl 0 rfl) ?_
      refine lv_iconst (v := nI (0)) hx hb dX1_init__47 (by decide) ?_
      refine z_putr (T := TX1) (v := nI (0)) Z hin tyX1_ok nmX1 rfl Y L49 rfl rfl rfl dX1_init__48 (fun Hq lq Y => ?_)
      refine lv_aload_n hx hb dX1_init__51 rfl (lv_at hl 0 rfl) ?_
      refine lv_iconst (v := nI (0)) hx hb dX1_init__52 (by decide) ?_
      refine z_putw (T := TX1) (v := nI (0)) Z hin tyX1_ok nmX1 rfl Y L52 rfl rfl rfl dX1_init__53 (fun Hq lq Y => ?_)
      exact z_vret (u := psw (psr (psh (u2) (nI (0))) (nI (0))) (nI (0))) Z Y (⟨h4, h3, fun f hf => h5 f (by omega), rfl, rfl, rfl⟩) dX1_init__56
    | succ n ih =>
      intro k u2 hkn h4 h3 h5 Hq lq Y ls hl
      refine lv_iload_n hx hb dX1_init__24 rfl (lv_at hl 1 rfl) ?_
      refine lv_bipush (v := nI (32)) hx hb dX1_init__25 (by decide) ?_
      refine lv_icmp_ge (tgt := 41) hx hb dX1_init__27 (by decide) (fun c27 => absurd c27 (fun z => absurd ((nI_leI (by omega) (by omega)).mp z) (by omega))) (fun _ => ?_)
      refine lv_aload_n hx hb dX1_init__30 rfl (lv_at hl 0 rfl) ?_
      refine lv_iload_n hx hb dX1_init__31 rfl (lv_at hl 1 rfl) ?_
      refine z_callV (rest := []) Z Y rfl (kX1_empty l dC dI hg u2 (show k < gn5 g by omega)) (cwV 1 hts gX1_init__X1_empty rfl rfl rfl (by decide +kernel) ⟨Nat.le_of_ble_eq_true rfl, Nat.le_of_ble_eq_true rfl⟩) rfl hl.1 rfl (Nat.le_of_ble_eq_true rfl) dX1_init__32 ⟨Nat.zero_le _, Nat.zero_le _⟩ (fun u32 Hq lq hw Y => ?_)
      subst hw
      refine lv_iinc (v := nI (k + 1)) (lv' := [(1, .int (nI (k + 1))), (0, .ref (ga0 g))]) hx hb dX1_init__35 hl (k := 1) rfl (nI_add (k) 1) (by decide) rfl (fun ls hl => ?_)
      refine lv_goto (tgt := 24) hx hb dX1_init__38 (by decide) ?_
      refine ih (k + 1) (cs3 u2, cs4 u2, upd (cs5 u2) k (-1), upd (cs6 u2) k (nI 0), upd (cs7 u2) k (nI 0), upd (cs8 u2) k (nI 0), csh u2, csr u2, csw u2) (by omega) h4 h3 (fun f hf => ?_) _ _ Y ls (lv_sub hl [1, 0] rfl)
      show upd (cs5 u2) k (-1) f = -1 ∧ upd (cs6 u2) k (nI 0) f = nI 0 ∧ upd (cs7 u2) k (nI 0) f = nI 0 ∧ upd (cs8 u2) k (nI 0) f = nI 0
      by_cases e : f = k
      · subst e; exact ⟨pk_us, pk_us, pk_us, pk_us⟩
      · rw [pk_un e, pk_un e, pk_un e, pk_un e]; exact h5 f (by omega)
  have loop1 : ∀ (n k : Nat) (u2 : CS), k + n = 1600 → cs4 u2 = cs4 u → (∀ j, j < k → cs3 u2 j = nI 0) → ∀ (H : Heap) (locs : List Loc), zW dC dI 1 g A s.heap s (u2) H locs → ∀ ls : Array Slot, lv_has ls 2 [(0, .ref (ga0 g)), (1, .int (nI (k)))] → W p l e ({ frames := 1, cells := 0, slots := 0, locals := 21 }) s m (Value.ref (ga0 g) :: []).toArray below meth c H locs 0 0 (zQV below dC dI 1 g A (fun u1 => iniP g 32 u u1) (Value.ref (ga0 g) :: []).toArray s) (F0 m 2 ls []) := by
    intro n
    induction n with
    | zero =>
      intro k u2 hkn h4 h3 Hq lq Y ls hl
      refine lv_iload_n hx hb dX1_init__2 rfl (lv_at hl 1 rfl) ?_
      refine lv_sipush (v := nI (1600)) hx hb dX1_init__3 (by decide) ?_
      refine lv_icmp_ge (tgt := 22) hx hb dX1_init__6 (by decide) (fun _ => ?_) (fun c6 => absurd ((nI_leI (by omega) (by omega)).mpr (by omega)) c6)
      refine lv_iconst (v := nI (0)) hx hb dX1_init__22 (by decide) ?_
      refine lv_istore_n (lv' := [(1, .int (nI (0))), (0, .ref (ga0 g))]) hx hb dX1_init__23 rfl hl (by decide) rfl (fun ls hl => ?_)
      exact loop2 32 0 u2 (by omega) h4 (fun j hj => h3 j (by omega)) (fun f hf => absurd hf (by omega)) _ _ Y ls (lv_sub hl [1, 0] rfl)
    | succ n ih =>
      intro k u2 hkn h4 h3 Hq lq Y ls hl
      refine lv_iload_n hx hb dX1_init__2 rfl (lv_at hl 1 rfl) ?_
      refine lv_sipush (v := nI (1600)) hx hb dX1_init__3 (by decide) ?_
      refine lv_icmp_ge (tgt := 22) hx hb dX1_init__6 (by decide) (fun c6 => absurd c6 (fun z => absurd ((nI_leI (by omega) (by omega)).mp z) (by omega))) (fun _ => ?_)
      refine lv_aload_n hx hb dX1_init__9 rfl (lv_at hl 0 rfl) ?_
      refine z_get (T := TX1) (v := .ref (ga3 g)) Z hin rfl Y 3 (by decide) L7 rfl rfl dX1_init__10 ?_
      refine lv_iload_n hx hb dX1_init__13 rfl (lv_at hl 1 rfl) ?_
      refine lv_iconst (v := nI (0)) hx hb dX1_init__14 (by decide) ?_
      refine z_st3 (x := nI (0)) Z Y (k) (rfl) (by omega) (by omega) dX1_init__15 (fun Hq lq Y => ?_)
      refine lv_iinc (v := nI (k + 1)) (lv' := [(1, .int (nI (k + 1))), (0, .ref (ga0 g))]) hx hb dX1_init__16 hl (k := 1) rfl (nI_add (k) 1) (by decide) rfl (fun ls hl => ?_)
      refine lv_goto (tgt := 2) hx hb dX1_init__19 (by decide) ?_
      refine ih (k + 1) (ps3 u2 (upd (cs3 u2) k (nI 0))) (by omega) h4 (fun j hj => ?_) _ _ Y ls (lv_sub hl [1, 0] rfl)
      show upd (cs3 u2) k (nI 0) j = nI 0
      by_cases e : j = k
      · subst e; exact pk_us
      · rw [pk_un e]; exact h3 j (by omega)
  refine lv_iconst (v := nI (0)) hx hb dX1_init__0 (by decide) ?_
  refine lv_istore_n (lv' := [(1, .int (nI (0))), (0, .ref (ga0 g))]) hx hb dX1_init__1 rfl hl (by decide) rfl (fun ls hl => ?_)
  exact loop1 1600 0 u (by omega) rfl (fun j hj => absurd hj (by omega)) _ _ Y ls (lv_sub hl [1, 0] rfl)
