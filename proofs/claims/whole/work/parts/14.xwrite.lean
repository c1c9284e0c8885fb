set_option maxHeartbeats 4000000 in
set_option maxRecDepth 100000 in
theorem kX0_cw34 (l : Launch) (dC : Nat → ClassId) (dI : Nat → Nat → Nat) {g : GE} (hg : gok g) (hX : geS g = geW g) (u : CS) {q f : Nat} (hp : q < geP g) (hf : f < geF g) : zMV l yX0_copyWords wsX0_copyWords ({ frames := 1, cells := 0, slots := 0, locals := 40 }) dC dI 0 g u [.ref (ga3 g), .int (nI (q)), .ref (ga4 g), .int (nI (f))] (fun u1 => ps4 (u) (va_cpy (cs3 u) (cs4 u) (q * geS g) (f * geS g) (geW g)) = u1) := by
  refine zMV_of (cc := cX0_copyWords) (maxL := 5) (ret := none) (by decide) rfl (Nat.le_of_ble_eq_true rfl) ?_
  intro p e s m below meth c A ls Z Y hl
  have hin : ∀ w ∈ wsX00, w ∈ wsX0_copyWords := fun w h => List.mem_cons_of_mem _ (List.mem_append_right _ h)
  obtain ⟨hx, hb, hml, hown, hts, hr, hlk⟩ := id Z
  have L20 := hts (.fieldLink RX0 20 "FramePool" "wordCount" "I") (by decide +kernel)
  have hl : lv_has ls 5 [(0, .ref (ga0 g)), (1, .ref (ga3 g)), (2, .int (nI (q))), (3, .ref (ga4 g)), (4, .int (nI (f)))] := hl
  obtain ⟨b1, b2, b3, b4, b5, b6, b7⟩ := gokB hg
  refine lv_aload_n hx hb dX0_copyWords_0 rfl (lv_at hl 1 rfl) ?_
  refine lv_iload_n hx hb dX0_copyWords_1 rfl (lv_at hl 2 rfl) ?_
  refine lv_aload_n hx hb dX0_copyWords_2 rfl (lv_at hl 0 rfl) ?_
  refine z_get (T := TX0) (v := .int (nI (geW g))) Z hin rfl Y 2 (by decide) L20 rfl rfl dX0_copyWords_3 ?_
  refine lv_imul hx hb dX0_copyWords_6 ?_
  refine z_top (nI (q * geS g)) (by rw [hX]; exact pk_mul _ _) ?_
  refine lv_aload_n hx hb dX0_copyWords_7 rfl (lv_at hl 3 rfl) ?_
  refine lv_iload hx hb dX0_copyWords_8 (lv_at hl 4 rfl) ?_
  refine lv_aload_n hx hb dX0_copyWords_10 rfl (lv_at hl 0 rfl) ?_
  refine z_get (T := TX0) (v := .int (nI (geW g))) Z hin rfl Y 2 (by decide) L20 rfl rfl dX0_copyWords_11 ?_
  refine lv_imul hx hb dX0_copyWords_14 ?_
  refine z_top (nI (f * geS g)) (by rw [hX]; exact pk_mul _ _) ?_
  refine lv_aload_n hx hb dX0_copyWords_15 rfl (lv_at hl 0 rfl) ?_
  refine z_get (T := TX0) (v := .int (nI (geW g))) Z hin rfl Y 2 (by decide) L20 rfl rfl dX0_copyWords_16 ?_
  refine z_cpy34 (rest := []) Z Y hl.1 (hts (.methodLink RX0 108 arraycopyName) (by decide +kernel)) (hts (.native arraycopyName) (by decide +kernel)) (hts (.static arraycopyName) (by decide +kernel)) (hts (.initialized "java/lang/System") (by decide +kernel)) (le3 hg hp) (le4 hg hf) (by omega) (by omega) (Nat.le_of_ble_eq_true rfl) (by decide) dX0_copyWords_19 (fun Hq lq Y => ?_)
  exact z_vret (u := ps4 (u) (va_cpy (cs3 u) (cs4 u) (q * geS g) (f * geS g) (geW g))) Z Y (rfl) dX0_copyWords_22

set_option maxHeartbeats 4000000 in
set_option maxRecDepth 100000 in
theorem kX0_cw43 (l : Launch) (dC : Nat → ClassId) (dI : Nat → Nat → Nat) {g : GE} (hg : gok g) (hX : geS g = geW g) (u : CS) {q f : Nat} (hp : q < geF g) (hf : f < geP g) : zMV l yX0_copyWords wsX0_copyWords ({ frames := 1, cells := 0, slots := 0, locals := 40 }) dC dI 0 g u [.ref (ga4 g), .int (nI (q)), .ref (ga3 g), .int (nI (f))] (fun u1 => ps3 (u) (va_cpy (cs4 u) (cs3 u) (q * geS g) (f * geS g) (geW g)) = u1) := by
  refine zMV_of (cc := cX0_copyWords) (maxL := 5) (ret := none) (by decide) rfl (Nat.le_of_ble_eq_true rfl) ?_
  intro p e s m below meth c A ls Z Y hl
  have hin : ∀ w ∈ wsX00, w ∈ wsX0_copyWords := fun w h => List.mem_cons_of_mem _ (List.mem_append_right _ h)
  obtain ⟨hx, hb, hml, hown, hts, hr, hlk⟩ := id Z
  have L20 := hts (.fieldLink RX0 20 "FramePool" "wordCount" "I") (by decide +kernel)
  have hl : lv_has ls 5 [(0, .ref (ga0 g)), (1, .ref (ga4 g)), (2, .int (nI (q))), (3, .ref (ga3 g)), (4, .int (nI (f)))] := hl
  obtain ⟨b1, b2, b3, b4, b5, b6, b7⟩ := gokB hg
  refine lv_aload_n hx hb dX0_copyWords_0 rfl (lv_at hl 1 rfl) ?_
  refine lv_iload_n hx hb dX0_copyWords_1 rfl (lv_at hl 2 rfl) ?_
  refine lv_aload_n hx hb dX0_copyWords_2 rfl (lv_at hl 0 rfl) ?_
  refine z_get (T := TX0) (v := .int (nI (geW g))) Z hin rfl Y 2 (by decide) L20 rfl rfl dX0_copyWords_3 ?_
  refine lv_imul hx hb dX0_copyWords_6 ?_
  refine z_top (nI (q * geS g)) (by rw [hX]; exact pk_mul _ _) ?_
  refine lv_aload_n hx hb dX0_copyWords_7 rfl (lv_at hl 3 rfl) ?_
  refine lv_iload hx hb dX0_copyWords_8 (lv_at hl 4 rfl) ?_
  refine lv_aload_n hx hb dX0_copyWords_10 rfl (lv_at hl 0 rfl) ?_
  refine z_get (T := TX0) (v := .int (nI (geW g))) Z hin rfl Y 2 (by decide) L20 rfl rfl dX0_copyWords_11 ?_
  refine lv_imul hx hb dX0_copyWords_14 ?_
  refine z_top (nI (f * geS g)) (by rw [hX]; exact pk_mul _ _) ?_
  refine lv_aload_n hx hb dX0_copyWords_15 rfl (lv_at hl 0 rfl) ?_
  refine z_get (T := TX0) (v := .int (nI (geW g))) Z hin rfl Y 2 (by decide) L20 rfl rfl dX0_copyWords_16 ?_
  refine z_cpy43 (rest := []) Z Y hl.1 (hts (.methodLink RX0 108 arraycopyName) (by decide +kernel)) (hts (.native arraycopyName) (by decide +kernel)) (hts (.static arraycopyName) (by decide +kernel)) (hts (.initialized "java/lang/System") (by decide +kernel)) (le4 hg hp) (le3 hg hf) (by omega) (by omega) (Nat.le_of_ble_eq_true rfl) (by decide) dX0_copyWords_19 (fun Hq lq Y => ?_)
  exact z_vret (u := ps3 (u) (va_cpy (cs4 u) (cs3 u) (q * geS g) (f * geS g) (geW g))) Z Y (rfl) dX0_copyWords_22

set_option maxHeartbeats 4000000 in
set_option maxRecDepth 100000 in
theorem kX0_cw44 (l : Launch) (dC : Nat → ClassId) (dI : Nat → Nat → Nat) {g : GE} (hg : gok g) (hX : geS g = geW g) (u : CS) {q f : Nat} (hp : q < geF g) (hf : f < geF g) : zMV l yX0_copyWords wsX0_copyWords ({ frames := 1, cells := 0, slots := 0, locals := 40 }) dC dI 0 g u [.ref (ga4 g), .int (nI (q)), .ref (ga4 g), .int (nI (f))] (fun u1 => ps4 (u) (va_cpy (cs4 u) (cs4 u) (q * geS g) (f * geS g) (geW g)) = u1) := by
  refine zMV_of (cc := cX0_copyWords) (maxL := 5) (ret := none) (by decide) rfl (Nat.le_of_ble_eq_true rfl) ?_
  intro p e s m below meth c A ls Z Y hl
  have hin : ∀ w ∈ wsX00, w ∈ wsX0_copyWords := fun w h => List.mem_cons_of_mem _ (List.mem_append_right _ h)
  obtain ⟨hx, hb, hml, hown, hts, hr, hlk⟩ := id Z
  have L20 := hts (.fieldLink RX0 20 "FramePool" "wordCount" "I") (by decide +kernel)
  have hl : lv_has ls 5 [(0, .ref (ga0 g)), (1, .ref (ga4 g)), (2, .int (nI (q))), (3, .ref (ga4 g)), (4, .int (nI (f)))] := hl
  obtain ⟨b1, b2, b3, b4, b5, b6, b7⟩ := gokB hg
  refine lv_aload_n hx hb dX0_copyWords_0 rfl (lv_at hl 1 rfl) ?_
  refine lv_iload_n hx hb dX0_copyWords_1 rfl (lv_at hl 2 rfl) ?_
  refine lv_aload_n hx hb dX0_copyWords_2 rfl (lv_at hl 0 rfl) ?_
  refine z_get (T := TX0) (v := .int (nI (geW g))) Z hin rfl Y 2 (by decide) L20 rfl rfl dX0_copyWords_3 ?_
  refine lv_imul hx hb dX0_copyWords_6 ?_
  refine z_top (nI (q * geS g)) (by rw [hX]; exact pk_mul _ _) ?_
  refine lv_aload_n hx hb dX0_copyWords_7 rfl (lv_at hl 3 rfl) ?_
  refine lv_iload hx hb dX0_copyWords_8 (lv_at hl 4 rfl) ?_
  refine lv_aload_n hx hb dX0_copyWords_10 rfl (lv_at hl 0 rfl) ?_
  refine z_get (T := TX0) (v := .int (nI (geW g))) Z hin rfl Y 2 (by decide) L20 rfl rfl dX0_copyWords_11 ?_
  refine lv_imul hx hb dX0_copyWords_14 ?_
  refine z_top (nI (f * geS g)) (by rw [hX]; exact pk_mul _ _) ?_
  refine lv_aload_n hx hb dX0_copyWords_15 rfl (lv_at hl 0 rfl) ?_
  refine z_get (T := TX0) (v := .int (nI (geW g))) Z hin rfl Y 2 (by decide) L20 rfl rfl dX0_copyWords_16 ?_
  refine z_cpy44 (rest := []) Z Y hl.1 (hts (.methodLink RX0 108 arraycopyName) (by decide +kernel)) (hts (.native arraycopyName) (by decide +kernel)) (hts (.static arraycopyName) (by decide +kernel)) (hts (.initialized "java/lang/System") (by decide +kernel)) (le4 hg hp) (le4 hg hf) (by omega) (by omega) (Nat.le_of_ble_eq_true rfl) (by decide) dX0_copyWords_19 (fun Hq lq Y => ?_)
  exact z_vret (u := ps4 (u) (va_cpy (cs4 u) (cs4 u) (q * geS g) (f * geS g) (geW g))) Z Y (rfl) dX0_copyWords_22

set_option maxHeartbeats 4000000 in
set_option maxRecDepth 100000 in
theorem kX0_makeEmpty (l : Launch) (dC : Nat → ClassId) (dI : Nat → Nat → Nat) {g : GE} (hg : gok g) (u : CS) {f : Nat} (hf : f < geF g) : zMV l yX0_makeEmpty wsX0_makeEmpty ({ frames := 0, cells := 0, slots := 0, locals := 0 }) dC dI 0 g u [.int (nI (f))] (fun u1 => (cs3 u, cs4 u, upd (cs5 u) f (-1), upd (cs6 u) f (nI 0), upd (cs7 u) f (nI 0), upd (cs8 u) f (nI 0), csh u, csr u, csw u) = u1) := by
  refine zMV_of (cc := cX0_makeEmpty) (maxL := 2) (ret := none) (by decide) rfl (Nat.le_of_ble_eq_true rfl) ?_
  intro p e s m below meth c A ls Z Y hl
  have hin : ∀ w ∈ wsX00, w ∈ wsX0_makeEmpty := fun w h => List.mem_cons_of_mem _ (List.mem_append_right _ h)
  obtain ⟨hx, hb, hml, hown, hts, hr, hlk⟩ := id Z
  have L30 := hts (.fieldLink RX0 30 "FramePool" "pageIn" "[I") (by decide +kernel)
  have L33 := hts (.fieldLink RX0 33 "FramePool" "pins" "[I") (by decide +kernel)
  have L36 := hts (.fieldLink RX0 36 "FramePool" "dirty" "[Z") (by decide +kernel)
  have L40 := hts (.fieldLink RX0 40 "FramePool" "marked" "[Z") (by decide +kernel)
  have hl : lv_has ls 2 [(0, .ref (ga0 g)), (1, .int (nI (f)))] := hl
  obtain ⟨b1, b2, b3, b4, b5, b6, b7⟩ := gokB hg
  refine lv_aload_n hx hb dX0_makeEmpty_0 rfl (lv_at hl 0 rfl) ?_
  refine z_get (T := TX0) (v := .ref (ga5 g)) Z hin rfl Y 5 (by decide) L30 rfl rfl dX0_makeEmpty_1 ?_
  refine lv_iload_n hx hb dX0_makeEmpty_4 rfl (lv_at hl 1 rfl) ?_
  refine lv_iconst (v := (-1)) hx hb dX0_makeEmpty_5 (by decide) ?_
  refine z_st5 (x := (-1)) Z Y (f) (rfl) (by omega) (by omega) dX0_makeEmpty_6 (fun Hq lq Y => ?_)
  refine lv_aload_n hx hb dX0_makeEmpty_7 rfl (lv_at hl 0 rfl) ?_
  refine z_get (T := TX0) (v := .ref (ga6 g)) Z hin rfl Y 6 (by decide) L33 rfl rfl dX0_makeEmpty_8 ?_
  refine lv_iload_n hx hb dX0_makeEmpty_11 rfl (lv_at hl 1 rfl) ?_
  refine lv_iconst (v := nI (0)) hx hb dX0_makeEmpty_12 (by decide) ?_
  refine z_st6 (x := nI (0)) Z Y (f) (rfl) (by omega) (by omega) dX0_makeEmpty_13 (fun Hq lq Y => ?_)
  refine lv_aload_n hx hb dX0_makeEmpty_14 rfl (lv_at hl 0 rfl) ?_
  refine z_get (T := TX0) (v := .ref (ga7 g)) Z hin rfl Y 7 (by decide) L36 rfl rfl dX0_makeEmpty_15 ?_
  refine lv_iload_n hx hb dX0_makeEmpty_18 rfl (lv_at hl 1 rfl) ?_
  refine lv_iconst (v := nI (0)) hx hb dX0_makeEmpty_19 (by decide) ?_
  refine z_st7 (x := nI (0)) Z Y (f) (rfl) (by omega) (by omega) (by decide) dX0_makeEmpty_20 (fun Hq lq Y => ?_)
  refine lv_aload_n hx hb dX0_makeEmpty_21 rfl (lv_at hl 0 rfl) ?_
  refine z_get (T := TX0) (v := .ref (ga8 g)) Z hin rfl Y 8 (by decide) L40 rfl rfl dX0_makeEmpty_22 ?_
  refine lv_iload_n hx hb dX0_makeEmpty_25 rfl (lv_at hl 1 rfl) ?_
  refine lv_iconst (v := nI (0)) hx hb dX0_makeEmpty_26 (by decide) ?_
  refine z_st8 (x := nI (0)) Z Y (f) (rfl) (by omega) (by omega) (by decide) dX0_makeEmpty_27 (fun Hq lq Y => ?_)
  exact z_vret (u := ps8 (ps7 (ps6 (ps5 (u) (upd (cs5 (u)) (f) ((-1)))) (upd (cs6 (ps5 (u) (upd (cs5 (u)) (f) ((-1))))) (f) (nI (0)))) (upd (cs7 (ps6 (ps5 (u) (upd (cs5 (u)) (f) ((-1)))) (upd (cs6 (ps5 (u) (upd (cs5 (u)) (f) ((-1))))) (f) (nI (0))))) (f) (nI (0)))) (upd (cs8 (ps7 (ps6 (ps5 (u) (upd (cs5 (u)) (f) ((-1)))) (upd (cs6 (ps5 (u) (upd (cs5 (u)) (f) ((-1))))) (f) (nI (0)))) (upd (cs7 (ps6 (ps5 (u) (upd (cs5 (u)) (f) ((-1)))) (upd (cs6 (ps5 (u) (upd (cs5 (u)) (f) ((-1))))) (f) (nI (0))))) (f) (nI (0))))) (f) (nI (0)))) Z Y (rfl) dX0_makeEmpty_28

set_option maxHeartbeats 4000000 in
set_option maxRecDepth 100000 in
theorem kX0_writeBack (l : Launch) (dC : Nat → ClassId) (dI : Nat → Nat → Nat) {g : GE} {N : Nat} {a : AS} {u : CS} (hR : Rep g N a u) (hX : geS g = geW g) {f q : Nat} (hf : f < geF g) (hq : q < geP g) (hp : apg a f = nI q) : zMV l yX0_writeBack wsX0_writeBack ({ frames := 2, cells := 0, slots := 0, locals := 64 }) dC dI 0 g u [.int (nI (f))] (fun u1 => Rep g N (oStore f q a) u1) := by
  refine zMV_of (cc := cX0_writeBack) (maxL := 2) (ret := none) (by decide) rfl (Nat.le_of_ble_eq_true rfl) ?_
  intro p e s m below meth c A ls Z Y hl
  have hin : ∀ w ∈ wsX00, w ∈ wsX0_writeBack := fun w h => List.mem_cons_of_mem _ (List.mem_append_right _ h)
  obtain ⟨hx, hb, hml, hown, hts, hr, hlk⟩ := id Z
  have L23 := hts (.fieldLink RX0 23 "FramePool" "diskWords" "[I") (by decide +kernel)
  have L27 := hts (.fieldLink RX0 27 "FramePool" "frameWords" "[I") (by decide +kernel)
  have L30 := hts (.fieldLink RX0 30 "FramePool" "pageIn" "[I") (by decide +kernel)
  have L36 := hts (.fieldLink RX0 36 "FramePool" "dirty" "[Z") (by decide +kernel)
  have L56 := hts (.fieldLink RX0 56 "FramePool" "writes" "I") (by decide +kernel)
  have hl : lv_has ls 2 [(0, .ref (ga0 g)), (1, .int (nI (f)))] := hl
  have hg := hR.1
  have hN := hR.2.1
  obtain ⟨b1, b2, b3, b4, b5, b6, b7⟩ := gokB hg
  obtain ⟨r3, r4, r5, r6, r7, r8, r9, r10, r11⟩ := id hR.2.2.1
  obtain ⟨i1, i2, i3, i4, i5⟩ := id hR.2.2.2
  refine lv_aload_n hx hb dX0_writeBack_0 rfl (lv_at hl 0 rfl) ?_
  refine lv_aload_n hx hb dX0_writeBack_1 rfl (lv_at hl 0 rfl) ?_
  refine z_get (T := TX0) (v := .ref (ga4 g)) Z hin rfl Y 4 (by decide) L27 rfl rfl dX0_writeBack_2 ?_
  refine lv_iload_n hx hb dX0_writeBack_5 rfl (lv_at hl 1 rfl) ?_
  refine lv_aload_n hx hb dX0_writeBack_6 rfl (lv_at hl 0 rfl) ?_
  refine z_get (T := TX0) (v := .ref (ga3 g)) Z hin rfl Y 3 (by decide) L23 rfl rfl dX0_writeBack_7 ?_
  refine lv_aload_n hx hb dX0_writeBack_10 rfl (lv_at hl 0 rfl) ?_
  refine z_get (T := TX0) (v := .ref (ga5 g)) Z hin rfl Y 5 (by decide) L30 rfl rfl dX0_writeBack_11 ?_
  refine lv_iload_n hx hb dX0_writeBack_14 rfl (lv_at hl 1 rfl) ?_
  refine z_ld5 Z Y (f) (rfl) (by omega) (by omega) dX0_writeBack_15 ?_
  refine z_top (nI (q)) ((r5 f hf).trans hp) ?_
  refine z_callV (rest := []) Z Y rfl (kX0_cw43 l dC dI hg hX u hf hq) (cwV 4 hts gX0_writeBack_X0_copyWords rfl rfl rfl (by decide +kernel) ⟨Nat.le_of_ble_eq_true rfl, Nat.le_of_ble_eq_true rfl⟩) rfl hl.1 rfl (Nat.le_of_ble_eq_true rfl) dX0_writeBack_16 ⟨Nat.zero_le _, Nat.zero_le _⟩ (fun u16 Hq lq hw Y => ?_)
  subst hw
  refine lv_aload_n hx hb dX0_writeBack_19 rfl (lv_at hl 0 rfl) ?_
  refine z_get (T := TX0) (v := .ref (ga7 g)) Z hin rfl Y 7 (by decide) L36 rfl rfl dX0_writeBack_20 ?_
  refine lv_iload_n hx hb dX0_writeBack_23 rfl (lv_at hl 1 rfl) ?_
  refine lv_iconst (v := nI (0)) hx hb dX0_writeBack_24 (by decide) ?_
  refine z_st7 (x := nI (0)) Z Y (f) (rfl) (by omega) (by omega) (by decide) dX0_writeBack_25 (fun Hq lq Y => ?_)
  refine lv_aload_n hx hb dX0_writeBack_26 rfl (lv_at hl 0 rfl) ?_
  refine lv_dup hx hb dX0_writeBack_27 rfl ?_
  refine z_get (T := TX0) (v := .int (csw (ps7 (ps3 (u) (va_cpy (cs4 u) (cs3 u) (f * geS g) (q * geS g) (geW g))) (upd (cs7 (ps3 (u) (va_cpy (cs4 u) (cs3 u) (f * geS g) (q * geS g) (geW g)))) (f) (nI (0)))))) Z hin rfl Y 11 (by decide) L56 rfl rfl dX0_writeBack_28 ?_
  refine lv_iconst (v := nI (1)) hx hb dX0_writeBack_31 (by decide) ?_
  refine lv_iadd hx hb dX0_writeBack_32 ?_
  refine z_putw (T := TX0) (v := (csw (ps7 (ps3 (u) (va_cpy (cs4 u) (cs3 u) (f * geS g) (q * geS g) (geW g))) (upd (cs7 (ps3 (u) (va_cpy (cs4 u) (cs3 u) (f * geS g) (q * geS g) (geW g)))) (f) (nI (0)))) + nI (1))) Z hin tyX0_ok nmX0 rfl Y L56 rfl rfl rfl dX0_writeBack_33 (fun Hq lq Y => ?_)
  exact z_vret (u := psw (ps7 (ps3 (u) (va_cpy (cs4 u) (cs3 u) (f * geS g) (q * geS g) (geW g))) (upd (cs7 (ps3 (u) (va_cpy (cs4 u) (cs3 u) (f * geS g) (q * geS g) (geW g)))) (f) (nI (0)))) ((csw (ps7 (ps3 (u) (va_cpy (cs4 u) (cs3 u) (f * geS g) (q * geS g) (geW g))) (upd (cs7 (ps3 (u) (va_cpy (cs4 u) (cs3 u) (f * geS g) (q * geS g) (geW g)))) (f) (nI (0)))) + nI (1)))) Z Y (⟨hg, hN, Rp_store q hg hf hR.2.2.1, Iv_store f q hR.2.2.2⟩) dX0_writeBack_36

set_option maxHeartbeats 4000000 in
set_option maxRecDepth 100000 in
theorem kX0_readInto (l : Launch) (dC : Nat → ClassId) (dI : Nat → Nat → Nat) {g : GE} {N : Nat} {a : AS} {u : CS} (hR : Rep g N a u) (hX : geS g = geW g) {f q : Nat} (hf : f < geF g) (hq : q < geP g) (hno : ∀ k, k < geF g → apg a k ≠ nI q) : zMV l yX0_readInto wsX0_readInto ({ frames := 2, cells := 0, slots := 0, locals := 64 }) dC dI 0 g u [.int (nI (f)), .int (nI (q))] (fun u1 => Rep g N (oRead f q a) u1) := by
  refine zMV_of (cc := cX0_readInto) (maxL := 3) (ret := none) (by decide) rfl (Nat.le_of_ble_eq_true rfl) ?_
  intro p e s m below meth c A ls Z Y hl
  have hin : ∀ w ∈ wsX00, w ∈ wsX0_readInto := fun w h => List.mem_cons_of_mem _ (List.mem_append_right _ h)
  obtain ⟨hx, hb, hml, hown, hts, hr, hlk⟩ := id Z
  have L23 := hts (.fieldLink RX0 23 "FramePool" "diskWords" "[I") (by decide +kernel)
  have L27 := hts (.fieldLink RX0 27 "FramePool" "frameWords" "[I") (by decide +kernel)
  have L30 := hts (.fieldLink RX0 30 "FramePool" "pageIn" "[I") (by decide +kernel)
  have L53 := hts (.fieldLink RX0 53 "FramePool" "reads" "I") (by decide +kernel)
  have hl : lv_has ls 3 [(0, .ref (ga0 g)), (1, .int (nI (f))), (2, .int (nI (q)))] := hl
  have hg := hR.1
  have hN := hR.2.1
  obtain ⟨b1, b2, b3, b4, b5, b6, b7⟩ := gokB hg
  obtain ⟨r3, r4, r5, r6, r7, r8, r9, r10, r11⟩ := id hR.2.2.1
  obtain ⟨i1, i2, i3, i4, i5⟩ := id hR.2.2.2
  refine lv_aload_n hx hb dX0_readInto_0 rfl (lv_at hl 0 rfl) ?_
  refine lv_aload_n hx hb dX0_readInto_1 rfl (lv_at hl 0 rfl) ?_
  refine z_get (T := TX0) (v := .ref (ga3 g)) Z hin rfl Y 3 (by decide) L23 rfl rfl dX0_readInto_2 ?_
  refine lv_iload_n hx hb dX0_readInto_5 rfl (lv_at hl 2 rfl) ?_
  refine lv_aload_n hx hb dX0_readInto_6 rfl (lv_at hl 0 rfl) ?_
  refine z_get (T := TX0) (v := .ref (ga4 g)) Z hin rfl Y 4 (by decide) L27 rfl rfl dX0_readInto_7 ?_
  refine lv_iload_n hx hb dX0_readInto_10 rfl (lv_at hl 1 rfl) ?_
  refine z_callV (rest := []) Z Y rfl (kX0_cw34 l dC dI hg hX u hq hf) (cwV 4 hts gX0_readInto_X0_copyWords rfl rfl rfl (by decide +kernel) ⟨Nat.le_of_ble_eq_true rfl, Nat.le_of_ble_eq_true rfl⟩) rfl hl.1 rfl (Nat.le_of_ble_eq_true rfl) dX0_readInto_11 ⟨Nat.zero_le _, Nat.zero_le _⟩ (fun u11 Hq lq hw Y => ?_)
  subst hw
  refine lv_aload_n hx hb dX0_readInto_14 rfl (lv_at hl 0 rfl) ?_
  refine z_get (T := TX0) (v := .ref (ga5 g)) Z hin rfl Y 5 (by decide) L30 rfl rfl dX0_readInto_15 ?_
  refine lv_iload_n hx hb dX0_readInto_18 rfl (lv_at hl 1 rfl) ?_
  refine lv_iload_n hx hb dX0_readInto_19 rfl (lv_at hl 2 rfl) ?_
  refine z_st5 (x := nI (q)) Z Y (f) (rfl) (by omega) (by omega) dX0_readInto_20 (fun Hq lq Y => ?_)
  refine lv_aload_n hx hb dX0_readInto_21 rfl (lv_at hl 0 rfl) ?_
  refine lv_dup hx hb dX0_readInto_22 rfl ?_
  refine z_get (T := TX0) (v := .int (csr (ps5 (ps4 (u) (va_cpy (cs3 u) (cs4 u) (q * geS g) (f * geS g) (geW g))) (upd (cs5 (ps4 (u) (va_cpy (cs3 u) (cs4 u) (q * geS g) (f * geS g) (geW g)))) (f) (nI (q)))))) Z hin rfl Y 10 (by decide) L53 rfl rfl dX0_readInto_23 ?_
  refine lv_iconst (v := nI (1)) hx hb dX0_readInto_26 (by decide) ?_
  refine lv_iadd hx hb dX0_readInto_27 ?_
  refine z_putr (T := TX0) (v := (csr (ps5 (ps4 (u) (va_cpy (cs3 u) (cs4 u) (q * geS g) (f * geS g) (geW g))) (upd (cs5 (ps4 (u) (va_cpy (cs3 u) (cs4 u) (q * geS g) (f * geS g) (geW g)))) (f) (nI (q)))) + nI (1))) Z hin tyX0_ok nmX0 rfl Y L53 rfl rfl rfl dX0_readInto_28 (fun Hq lq Y => ?_)
  exact z_vret (u := psr (ps5 (ps4 (u) (va_cpy (cs3 u) (cs4 u) (q * geS g) (f * geS g) (geW g))) (upd (cs5 (ps4 (u) (va_cpy (cs3 u) (cs4 u) (q * geS g) (f * geS g) (geW g)))) (f) (nI (q)))) ((csr (ps5 (ps4 (u) (va_cpy (cs3 u) (cs4 u) (q * geS g) (f * geS g) (geW g))) (upd (cs5 (ps4 (u) (va_cpy (cs3 u) (cs4 u) (q * geS g) (f * geS g) (geW g)))) (f) (nI (q)))) + nI (1)))) Z Y (⟨hg, hN, Rp_read f hg hq hR.2.2.1, Iv_read hq b2 hno hR.2.2.2⟩) dX0_readInto_31

set_option maxHeartbeats 4000000 in
set_option maxRecDepth 100000 in
theorem kX0_moveHand (l : Launch) (dC : Nat → ClassId) (dI : Nat → Nat → Nat) {g : GE} {N : Nat} {a : AS} {u : CS} (hR : Rep g N a u) : zMV l yX0_moveHand wsX0_moveHand ({ frames := 0, cells := 0, slots := 0, locals := 0 }) dC dI 0 g u [] (fun u1 => Rep g N (oHand (nx g (ahd a)) a) u1) := by
  refine zMV_of (cc := cX0_moveHand) (maxL := 1) (ret := none) (by decide) rfl (Nat.le_of_ble_eq_true rfl) ?_
  intro p e s m below meth c A ls Z Y hl
  have hin : ∀ w ∈ wsX00, w ∈ wsX0_moveHand := fun w h => List.mem_cons_of_mem _ (List.mem_append_right _ h)
  obtain ⟨hx, hb, hml, hown, hts, hr, hlk⟩ := id Z
  have L13 := hts (.fieldLink RX0 13 "FramePool" "frameCount" "I") (by decide +kernel)
  have L50 := hts (.fieldLink RX0 50 "FramePool" "handAt" "I") (by decide +kernel)
  have hl : lv_has ls 1 [(0, .ref (ga0 g))] := hl
  have hg := hR.1
  have hN := hR.2.1
  obtain ⟨b1, b2, b3, b4, b5, b6, b7⟩ := gokB hg
  obtain ⟨r3, r4, r5, r6, r7, r8, r9, r10, r11⟩ := id hR.2.2.1
  obtain ⟨i1, i2, i3, i4, i5⟩ := id hR.2.2.2
  refine lv_aload_n hx hb dX0_moveHand_0 rfl (lv_at hl 0 rfl) ?_
  refine lv_aload_n hx hb dX0_moveHand_1 rfl (lv_at hl 0 rfl) ?_
  refine z_get (T := TX0) (v := .int (csh (u))) Z hin rfl Y 9 (by decide) L50 rfl rfl dX0_moveHand_2 ?_
  refine z_top (nI (ahd a)) (r9) ?_
  refine lv_iconst (v := nI (1)) hx hb dX0_moveHand_5 (by decide) ?_
  refine lv_iadd hx hb dX0_moveHand_6 ?_
  refine z_top (nI ((ahd a) + (1))) (nI_add (ahd a) (1)) ?_
  refine lv_aload_n hx hb dX0_moveHand_7 rfl (lv_at hl 0 rfl) ?_
  refine z_get (T := TX0) (v := .int (nI (geF g))) Z hin rfl Y 0 (by decide) L13 rfl rfl dX0_moveHand_8 ?_
  refine lv_icmp_ge (tgt := 23) hx hb dX0_moveHand_11 (by decide) (fun c11 => ?_) (fun c11 => ?_)
  · refine lv_iconst (v := nI (0)) hx hb dX0_moveHand_23 (by decide) ?_
    refine z_puth (T := TX0) (v := nI (0)) Z hin tyX0_ok nmX0 rfl Y L50 rfl rfl rfl dX0_moveHand_24 (fun Hq lq Y => ?_)
    exact z_vret (u := psh (u) (nI (0))) Z Y (by rw [nx_f (g := g) (h := ahd a) (by have := (nI_leI b1 (by omega)).mp c11; omega)]; exact ⟨hg, hN, Rp_hand 0 hR.2.2.1, Iv_hand (by omega) hR.2.2.2⟩) dX0_moveHand_27
  · have hlt : ahd a + 1 < geF g := Nat.not_le.mp fun z => c11 ((nI_leI b1 (by omega)).mpr z)
    refine lv_aload_n hx hb dX0_moveHand_14 rfl (lv_at hl 0 rfl) ?_
    refine z_get (T := TX0) (v := .int (csh (u))) Z hin rfl Y 9 (by decide) L50 rfl rfl dX0_moveHand_15 ?_
    refine z_top (nI (ahd a)) (r9) ?_
    refine lv_iconst (v := nI (1)) hx hb dX0_moveHand_18 (by decide) ?_
    refine lv_iadd hx hb dX0_moveHand_19 ?_
    refine z_top (nI ((ahd a) + (1))) (nI_add (ahd a) (1)) ?_
    refine lv_goto (tgt := 24) hx hb dX0_moveHand_20 (by decide) ?_
    refine z_puth (T := TX0) (v := nI ((ahd a) + (1))) Z hin tyX0_ok nmX0 rfl Y L50 rfl rfl rfl dX0_moveHand_24 (fun Hq lq Y => ?_)
    exact z_vret (u := psh (u) (nI ((ahd a) + (1)))) Z Y (by rw [nx_t (g := g) hlt]; exact ⟨hg, hN, Rp_hand (ahd a + 1) hR.2.2.1, Iv_hand hlt hR.2.2.2⟩) dX0_moveHand_27

set_option maxHeartbeats 4000000 in
set_option maxRecDepth 100000 in
theorem kX0_givesWay (l : Launch) (dC : Nat → ClassId) (dI : Nat → Nat → Nat) {g : GE} {N : Nat} {a : AS} {u : CS} (hR : Rep g N a u) (hX : geS g = geW g) {f : Nat} (hf : f < geF g) : zMI l yX0_givesWay wsX0_givesWay ({ frames := 3, cells := 0, slots := 0, locals := 85 }) dC dI 0 g u [.int (nI (f))] (fun r u1 => r = bI (gw f a).1 ∧ Rep g N (gw f a).2 u1) := by
  refine zMI_of (cc := cX0_givesWay) (maxL := 2) (ret := (some .boolean)) (by decide) rfl (Nat.le_of_ble_eq_true rfl) ?_
  intro p e s m below meth c A ls Z Y hl
  have hin : ∀ w ∈ wsX00, w ∈ wsX0_givesWay := fun w h => List.mem_cons_of_mem _ (List.mem_append_right _ h)
  obtain ⟨hx, hb, hml, hown, hts, hr, hlk⟩ := id Z
  have L30 := hts (.fieldLink RX0 30 "FramePool" "pageIn" "[I") (by decide +kernel)
  have L33 := hts (.fieldLink RX0 33 "FramePool" "pins" "[I") (by decide +kernel)
  have L36 := hts (.fieldLink RX0 36 "FramePool" "dirty" "[Z") (by decide +kernel)
  have L40 := hts (.fieldLink RX0 40 "FramePool" "marked" "[Z") (by decide +kernel)
  have hl : lv_has ls 2 [(0, .ref (ga0 g)), (1, .int (nI (f)))] := hl
  have hg := hR.1
  have hN := hR.2.1
  obtain ⟨b1, b2, b3, b4, b5, b6, b7⟩ := gokB hg
  obtain ⟨r3, r4, r5, r6, r7, r8, r9, r10, r11⟩ := id hR.2.2.1
  obtain ⟨i1, i2, i3, i4, i5⟩ := id hR.2.2.2
  refine lv_aload_n hx hb dX0_givesWay_0 rfl (lv_at hl 0 rfl) ?_
  refine z_get (T := TX0) (v := .ref (ga6 g)) Z hin rfl Y 6 (by decide) L33 rfl rfl dX0_givesWay_1 ?_
  refine lv_iload_n hx hb dX0_givesWay_4 rfl (lv_at hl 1 rfl) ?_
  refine z_ld6 Z Y (f) (rfl) (by omega) (by omega) dX0_givesWay_5 ?_
  refine z_top (nI (apn a f)) (r6 f hf) ?_
  have hb6 : apn a f < 2 ^ 31 := by have := pn31 hR hf; omega
  refine lv_if_le (tgt := 11) hx hb dX0_givesWay_6 (by decide) (fun c6 => ?_) (fun c6 => ?_)
  · have h0 : ¬ 0 < apn a f := by have := (nI_le0 hb6).mp c6; omega
    refine lv_aload_n hx hb dX0_givesWay_11 rfl (lv_at hl 0 rfl) ?_
    refine z_get (T := TX0) (v := .ref (ga5 g)) Z hin rfl Y 5 (by decide) L30 rfl rfl dX0_givesWay_12 ?_
    refine lv_iload_n hx hb dX0_givesWay_15 rfl (lv_at hl 1 rfl) ?_
    refine z_ld5 Z Y (f) (rfl) (by omega) (by omega) dX0_givesWay_16 ?_
    refine z_top (apg a f) (r5 f hf) ?_
    refine lv_iconst (v := (-1)) hx hb dX0_givesWay_17 (by decide) ?_
    refine lv_icmp_ne (tgt := 23) hx hb dX0_givesWay_18 (by decide) (fun c18 => ?_) (fun c18 => ?_)
    · refine lv_aload_n hx hb dX0_givesWay_23 rfl (lv_at hl 0 rfl) ?_
      refine z_get (T := TX0) (v := .ref (ga8 g)) Z hin rfl Y 8 (by decide) L40 rfl rfl dX0_givesWay_24 ?_
      refine lv_iload_n hx hb dX0_givesWay_27 rfl (lv_at hl 1 rfl) ?_
      refine z_ld8 Z Y (f) (rfl) (by omega) (by omega) dX0_givesWay_28 ?_
      refine z_top (amk a f) (r8 f hf) ?_
      refine lv_if_eq (tgt := 41) hx hb dX0_givesWay_29 (by decide) (fun c29 => ?_) (fun c29 => ?_)
      · refine lv_aload_n hx hb dX0_givesWay_41 rfl (lv_at hl 0 rfl) ?_
        refine z_get (T := TX0) (v := .ref (ga7 g)) Z hin rfl Y 7 (by decide) L36 rfl rfl dX0_givesWay_42 ?_
        refine lv_iload_n hx hb dX0_givesWay_45 rfl (lv_at hl 1 rfl) ?_
        refine z_ld7 Z Y (f) (rfl) (by omega) (by omega) dX0_givesWay_46 ?_
        refine z_top (adt a f) (r7 f hf) ?_
        refine lv_if_eq (tgt := 55) hx hb dX0_givesWay_47 (by decide) (fun c47 => ?_) (fun c47 => ?_)
        · refine lv_aload_n hx hb dX0_givesWay_55 rfl (lv_at hl 0 rfl) ?_
          refine lv_iload_n hx hb dX0_givesWay_56 rfl (lv_at hl 1 rfl) ?_
          refine z_callV (rest := []) Z Y rfl (kX0_makeEmpty l dC dI hg u hf) (cwV 1 hts gX0_givesWay_X0_makeEmpty rfl rfl rfl (by decide +kernel) ⟨Nat.le_of_ble_eq_true rfl, Nat.le_of_ble_eq_true rfl⟩) rfl hl.1 rfl (Nat.le_of_ble_eq_true rfl) dX0_givesWay_57 ⟨Nat.zero_le _, Nat.zero_le _⟩ (fun u57 Hq lq hw Y => ?_)
          skip
          subst hw
          refine lv_iconst (v := nI (1)) hx hb dX0_givesWay_60 (by decide) ?_
          exact z_ret (v := nI (1)) (u := (cs3 u, cs4 u, upd (cs5 u) f (-1), upd (cs6 u) f (nI 0), upd (cs7 u) f (nI 0), upd (cs8 u) f (nI 0), csh u, csr u, csw u)) Z Y (rfl) (⟨by rw [gw_clean h0 c18 c29 c47]; rfl, by rw [gw_clean h0 c18 c29 c47]; exact ⟨hg, hN, Rp_empty f hR.2.2.1, Iv_empty f hR.2.2.2⟩⟩) dX0_givesWay_61
        · obtain ⟨q, hq, hpq⟩ := dt_pg hR.2.2.2 hf c47
          refine lv_aload_n hx hb dX0_givesWay_50 rfl (lv_at hl 0 rfl) ?_
          refine lv_iload_n hx hb dX0_givesWay_51 rfl (lv_at hl 1 rfl) ?_
          refine z_callV (rest := []) Z Y rfl (kX0_writeBack l dC dI hR hX hf hq hpq) (cwV 1 hts gX0_givesWay_X0_writeBack rfl rfl rfl (by decide +kernel) ⟨Nat.le_of_ble_eq_true rfl, Nat.le_of_ble_eq_true rfl⟩) rfl hl.1 rfl (Nat.le_of_ble_eq_true rfl) dX0_givesWay_52 ⟨Nat.zero_le _, Nat.zero_le _⟩ (fun u52 Hq lq hw Y => ?_)
          have hR52 := hw
          refine lv_aload_n hx hb dX0_givesWay_55 rfl (lv_at hl 0 rfl) ?_
          refine lv_iload_n hx hb dX0_givesWay_56 rfl (lv_at hl 1 rfl) ?_
          refine z_callV (rest := []) Z Y rfl (kX0_makeEmpty l dC dI hg u52 hf) (cwV 1 hts gX0_givesWay_X0_makeEmpty rfl rfl rfl (by decide +kernel) ⟨Nat.le_of_ble_eq_true rfl, Nat.le_of_ble_eq_true rfl⟩) rfl hl.1 rfl (Nat.le_of_ble_eq_true rfl) dX0_givesWay_57 ⟨Nat.zero_le _, Nat.zero_le _⟩ (fun u57 Hq lq hw Y => ?_)
          have hwe := hw
          subst hw
          refine lv_iconst (v := nI (1)) hx hb dX0_givesWay_60 (by decide) ?_
          exact z_ret (v := nI (1)) (u := (cs3 u52, cs4 u52, upd (cs5 u52) f (-1), upd (cs6 u52) f (nI 0), upd (cs7 u52) f (nI 0), upd (cs8 u52) f (nI 0), csh u52, csr u52, csw u52)) Z Y (rfl) (⟨by rw [gw_dirty (by omega) h0 c18 c29 c47 hpq]; rfl, by rw [gw_dirty (by omega) h0 c18 c29 c47 hpq]; exact ⟨hg, hN, Rp_empty f hR52.2.2.1, Iv_empty f hR52.2.2.2⟩⟩) dX0_givesWay_61
      · refine lv_aload_n hx hb dX0_givesWay_32 rfl (lv_at hl 0 rfl) ?_
        refine z_get (T := TX0) (v := .ref (ga8 g)) Z hin rfl Y 8 (by decide) L40 rfl rfl dX0_givesWay_33 ?_
        refine lv_iload_n hx hb dX0_givesWay_36 rfl (lv_at hl 1 rfl) ?_
        refine lv_iconst (v := nI (0)) hx hb dX0_givesWay_37 (by decide) ?_
        refine z_st8 (x := nI (0)) Z Y (f) (rfl) (by omega) (by omega) (by decide) dX0_givesWay_38 (fun Hq lq Y => ?_)
        refine lv_iconst (v := nI (0)) hx hb dX0_givesWay_39 (by decide) ?_
        exact z_ret (v := nI (0)) (u := ps8 (u) (upd (cs8 (u)) (f) (nI (0)))) Z Y (rfl) (⟨by rw [gw_mk h0 c18 c29]; rfl, by rw [gw_mk h0 c18 c29]; exact ⟨hg, hN, Rp_mark f (nI 0) hR.2.2.1, Iv_mark (fun _ => rfl) hR.2.2.2⟩⟩) dX0_givesWay_40
    · refine lv_iconst (v := nI (1)) hx hb dX0_givesWay_21 (by decide) ?_
      exact z_ret (v := nI (1)) (u := u) Z Y (rfl) (⟨by rw [gw_emp h0 c18]; rfl, by rw [gw_emp h0 c18]; exact hR⟩) dX0_givesWay_22
  · have h0 : 0 < apn a f := Nat.pos_of_ne_zero (fun z => c6 ((nI_le0 hb6).mpr z))
    refine lv_iconst (v := nI (0)) hx hb dX0_givesWay_9 (by decide) ?_
    exact z_ret (v := nI (0)) (u := u) Z Y (rfl) (⟨by rw [gw_pin h0]; rfl, by rw [gw_pin h0]; exact hR⟩) dX0_givesWay_10

set_option maxHeartbeats 4000000 in
set_option maxRecDepth 100000 in
theorem kX0_findFrame (l : Launch) (dC : Nat → ClassId) (dI : Nat → Nat → Nat) {g : GE} {N : Nat} {a : AS} {u : CS} (hR : Rep g N a u) (hX : geS g = geW g) : zMI l yX0_findFrame wsX0_findFrame ({ frames := 4, cells := 0, slots := 0, locals := 106 }) dC dI 0 g u [] (fun r u1 => r = onI (-1) (spFind g a).2 ∧ Rep g N (spFind g a).1 u1) := by
  refine zMI_of (cc := cX0_findFrame) (maxL := 3) (ret := (some .int)) (by decide) rfl (Nat.le_of_ble_eq_true rfl) ?_
  intro p e s m below meth c A ls Z Y hl
  have hin : ∀ w ∈ wsX00, w ∈ wsX0_findFrame := fun w h => List.mem_cons_of_mem _ (List.mem_append_right _ h)
  obtain ⟨hx, hb, hml, hown, hts, hr, hlk⟩ := id Z
  have L13 := hts (.fieldLink RX0 13 "FramePool" "frameCount" "I") (by decide +kernel)
  have L50 := hts (.fieldLink RX0 50 "FramePool" "handAt" "I") (by decide +kernel)
  have hl : lv_has ls 3 [(0, .ref (ga0 g))] := hl
  have hg := hR.1
  have hN := hR.2.1
  obtain ⟨b1, b2, b3, b4, b5, b6, b7⟩ := gokB hg
  obtain ⟨r3, r4, r5, r6, r7, r8, r9, r10, r11⟩ := id hR.2.2.1
  obtain ⟨i1, i2, i3, i4, i5⟩ := id hR.2.2.2
  have b8 : geF g ≤ 32 := hg.2.1
  have loop : ∀ (R0 : AS × Option Nat) (n k : Nat) (a : AS) (u : CS), k + n = 2 * geF g → Rep g N a u → findN g n a = R0 → ∀ (H : Heap) (locs : List Loc), zW dC dI 0 g A s.heap s (u) H locs → ∀ ls : Array Slot, lv_has ls 3 [(0, .ref (ga0 g)), (1, .int (nI (k)))] → W p l e ({ frames := 4, cells := 0, slots := 0, locals := 106 }) s m (Value.ref (ga0 g) :: []).toArray below meth c H locs 0 0 (zQI below dC dI 0 g A (fun r u1 => r = onI (-1) R0.2 ∧ Rep g N R0.1 u1) (Value.ref (ga0 g) :: []).toArray s) (F0 m 15 ls []) := by
    intro R0 n
    induction n with
    | zero =>
      intro k a u hkn hR hF0 Hq lq Y ls hl
      refine lv_iload_n hx hb dX0_findFrame_15 rfl (lv_at hl 1 rfl) ?_
      refine lv_iconst (v := nI (2)) hx hb dX0_findFrame_16 (by decide) ?_
      refine lv_aload_n hx hb dX0_findFrame_17 rfl (lv_at hl 0 rfl) ?_
      refine z_get (T := TX0) (v := .int (nI (geF g))) Z hin rfl Y 0 (by decide) L13 rfl rfl dX0_findFrame_18 ?_
      refine lv_imul hx hb dX0_findFrame_21 ?_
      refine z_top (nI ((2) * (geF g))) (pk_mul (2) (geF g)) ?_
      refine lv_icmp_ge (tgt := 50) hx hb dX0_findFrame_22 (by decide) (fun _ => ?_) (fun c22 => absurd ((nI_leI (by omega) (by omega)).mpr (by omega)) c22)
      refine lv_iconst (v := (-1)) hx hb dX0_findFrame_50 (by decide) ?_
      exact z_ret (v := (-1)) (u := u) Z Y (rfl) (by rw [← hF0]; exact ⟨rfl, hR⟩) dX0_findFrame_51
    | succ n ih =>
      intro k a u hkn hR hF0 Hq lq Y ls hl
      obtain ⟨r3, r4, r5, r6, r7, r8, r9, r10, r11⟩ := id hR.2.2.1
      obtain ⟨i1, i2, i3, i4, i5⟩ := id hR.2.2.2
      refine lv_iload_n hx hb dX0_findFrame_15 rfl (lv_at hl 1 rfl) ?_
      refine lv_iconst (v := nI (2)) hx hb dX0_findFrame_16 (by decide) ?_
      refine lv_aload_n hx hb dX0_findFrame_17 rfl (lv_at hl 0 rfl) ?_
      refine z_get (T := TX0) (v := .int (nI (geF g))) Z hin rfl Y 0 (by decide) L13 rfl rfl dX0_findFrame_18 ?_
      refine lv_imul hx hb dX0_findFrame_21 ?_
      refine z_top (nI ((2) * (geF g))) (pk_mul (2) (geF g)) ?_
      refine lv_icmp_ge (tgt := 50) hx hb dX0_findFrame_22 (by decide) (fun c22 => absurd c22 (fun q => absurd ((nI_leI (by omega) (by omega)).mp q) (by omega))) (fun _ => ?_)
      refine lv_aload_n hx hb dX0_findFrame_25 rfl (lv_at hl 0 rfl) ?_
      refine z_get (T := TX0) (v := .int (csh (u))) Z hin rfl Y 9 (by decide) L50 rfl rfl dX0_findFrame_26 ?_
      refine z_top (nI (ahd a)) (r9) ?_
      refine lv_istore_n (lv' := [(2, .int (nI (ahd a))), (0, .ref (ga0 g)), (1, .int (nI (k)))]) hx hb dX0_findFrame_29 rfl hl (by decide) rfl (fun ls hl => ?_)
      refine lv_aload_n hx hb dX0_findFrame_30 rfl (lv_at hl 1 rfl) ?_
      refine z_callV (rest := []) Z Y rfl (kX0_moveHand l dC dI hR) (cwV 0 hts gX0_findFrame_X0_moveHand rfl rfl rfl (by decide +kernel) ⟨Nat.le_of_ble_eq_true rfl, Nat.le_of_ble_eq_true rfl⟩) rfl hl.1 rfl (Nat.le_of_ble_eq_true rfl) dX0_findFrame_31 ⟨Nat.zero_le _, Nat.zero_le _⟩ (fun u31 Hq lq hw Y => ?_)
      have hR31 := hw
      refine lv_aload_n hx hb dX0_findFrame_34 rfl (lv_at hl 1 rfl) ?_
      refine lv_iload_n hx hb dX0_findFrame_35 rfl (lv_at hl 0 rfl) ?_
      refine z_callI (rest := []) Z Y rfl (kX0_givesWay l dC dI hR31 hX i1) (cwV 1 hts gX0_findFrame_X0_givesWay rfl rfl rfl (by decide +kernel) ⟨Nat.le_of_ble_eq_true rfl, Nat.le_of_ble_eq_true rfl⟩) rfl hl.1 rfl (Nat.le_of_ble_eq_true rfl) dX0_findFrame_36 ⟨Nat.zero_le _, Nat.zero_le _⟩ (fun r36 u36 Hq lq hw Y => ?_)
      obtain ⟨hw1, hR36⟩ := hw
      rcases Bool.eq_false_or_eq_true (gw (ahd a) (oHand (nx g (ahd a)) a)).1 with hg1 | hg1
      · obtain rfl : r36 = nI 1 := by rw [hw1, hg1]; rfl
        refine lv_if_eq (tgt := 44) hx hb dX0_findFrame_39 (by decide) (fun c39 => absurd c39 (by decide)) (fun _ => ?_)
        refine lv_iload_n hx hb dX0_findFrame_42 rfl (lv_at hl 0 rfl) ?_
        exact z_ret (v := nI (ahd a)) (u := u36) Z Y (rfl) (by rw [← hF0, findN_t hg1]; exact ⟨rfl, hR36⟩) dX0_findFrame_43
      · obtain rfl : r36 = nI 0 := by rw [hw1, hg1]; rfl
        refine lv_if_eq (tgt := 44) hx hb dX0_findFrame_39 (by decide) (fun _ => ?_) (fun c39 => absurd (by decide) c39)
        refine lv_iinc (v := nI (k + 1)) (lv' := [(1, .int (nI (k + 1))), (2, .int (nI (ahd a))), (0, .ref (ga0 g))]) hx hb dX0_findFrame_44 hl (k := 2) rfl (nI_add (k) 1) (by decide) rfl (fun ls hl => ?_)
        refine lv_goto (tgt := 15) hx hb dX0_findFrame_47 (by decide) ?_
        exact ih (k + 1) _ _ (by omega) hR36 (by rw [← hF0, findN_f hg1]) _ _ Y ls (lv_sub hl [2, 0] rfl)
  refine lv_aload_n hx hb dX0_findFrame_0 rfl (lv_at hl 0 rfl) ?_
  refine z_callI (rest := []) Z Y rfl (kX0_pinned l dC dI hR) (cwV 0 hts gX0_findFrame_X0_pinned rfl rfl rfl (by decide +kernel) ⟨Nat.le_of_ble_eq_true rfl, Nat.le_of_ble_eq_true rfl⟩) rfl hl.1 rfl (Nat.le_of_ble_eq_true rfl) dX0_findFrame_1 ⟨Nat.zero_le _, Nat.zero_le _⟩ (fun r1 u1 Hq lq hw Y => ?_)
  obtain ⟨rfl, rfl⟩ := hw
  refine lv_aload_n hx hb dX0_findFrame_4 rfl (lv_at hl 0 rfl) ?_
  refine z_get (T := TX0) (v := .int (nI (geF g))) Z hin rfl Y 0 (by decide) L13 rfl rfl dX0_findFrame_5 ?_
  have hc31 : cnt (apn a) (geF g) < 2 ^ 31 := by have := cnt_le (apn a) (geF g); omega
  refine lv_icmp_ne (tgt := 13) hx hb dX0_findFrame_8 (by decide) (fun c8 => ?_) (fun c8 => ?_)
  · refine lv_iconst (v := nI (0)) hx hb dX0_findFrame_13 (by decide) ?_
    refine lv_istore_n (lv' := [(1, .int (nI (0))), (0, .ref (ga0 g))]) hx hb dX0_findFrame_14 rfl hl (by decide) rfl (fun ls hl => ?_)
    have hne : ¬ cnt (apn a) (geF g) = geF g := fun z => c8 ((nI_eq hc31 b1).mpr z)
    rw [spFind_go hne]
    exact loop _ (2 * geF g) 0 a u (by omega) hR rfl _ _ Y ls (lv_sub hl [1, 0] rfl)
  · refine lv_iconst (v := (-1)) hx hb dX0_findFrame_11 (by decide) ?_
    have he := (nI_eq hc31 b1).mp c8
    exact z_ret (v := (-1)) (u := u) Z Y (rfl) (by rw [spFind_all he]; exact ⟨rfl, hR⟩) dX0_findFrame_12
