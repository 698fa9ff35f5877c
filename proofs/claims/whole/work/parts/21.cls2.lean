def f_X6_chargeAndTakeDown (K : Nat → Nat) (z : Nat) (c : zS) (th : Nat) (t1 : Nat) : Option (Int32 × zS) :=
  zb (f_X6_feeOf K z c th t1) fun x2 => zlet (zul c 93 t1 0 ((zl c 93 t1 0) + (Int32.toInt64 x2))) fun c3 => zlet (zul c3 134 th 0 ((zl c3 134 th 0) + (Int32.toInt64 x2))) fun c4 => zb (f_X6_takeDown K z c4 th t1) fun c7 => some (x2, c7)
set_option maxRecDepth 100000 in
set_option maxHeartbeats 4000000 in
theorem c_X6_chargeAndTakeDown {l : Launch} {D : va_G} {cy : Nat → ClassId} {base : Nat} {st : Nat → Nat} {K : Nat → Nat} {L : List Nat} {c r : zS} {o : Int64} {z : Nat} (th : Nat) (t1 : Nat) {rv : Int32} {cf : zS}  (hk_th : K th = 6) (hk_t1 : K t1 = 4) (hf : f_X6_chargeAndTakeDown K z c th t1 = some (rv, cf)) : Met l yX6_chargeAndTakeDown wsX6_chargeAndTakeDown ({ frames := 3, cells := 0, slots := 0, locals := 67 }) (va_Pc [.ref th, .ref t1] (zGW zts0 zns0 D cy base st K L (c, r, o))) (va_Qi (fun (rr : Int32) (_ : Unit) => rr = rv) (fun _ => zB D cy base K L (cf, r, o)) (zA base)) 0 0 (zA base) := by
  refine Met.ofW (cc := cX6_chargeAndTakeDown) (maxL := 3) (ret := (some .int)) (by decide) rfl ?_
  intro p e s m args below meth cd s₁ B hml hv
  obtain ⟨rfl, hG⟩ := hv
  have hx := B.exec
  have hb := B.bytes
  have hr := B.returns
  have hts := atoms_spec (ws := wsX6_chargeAndTakeDown) B.pre
  have hown : s.vm.findClass RX6 = some m.cls := findClass_of_methodNamed B.named
  have hlocks := B.notSynchronized
  have hC := hG.enter
  have hK := hG.2.2.2.1
  have hi4 : ∀ w ∈ wsX40, w ∈ wsX6_chargeAndTakeDown := by decide +kernel
  have hi6 : ∀ w ∈ wsX60, w ∈ wsX6_chargeAndTakeDown := by decide +kernel
  have w0 := hts (.fieldLink RX6 246 "MarketSquare$Trader" "owed" "J") (by decide +kernel)
  have w1 := hts (.fieldLink RX6 317 "MarketSquare" "fees" "J") (by decide +kernel)
  have hl := lv_entry ([.ref th, .ref t1]) (n := 3) (Nat.le_of_ble_eq_true rfl)
  rw [lg_entry_eq]
  generalize (lg_sl ([.ref th, .ref t1]) ++ List.replicate (3 - (lg_sl ([.ref th, .ref t1])).length) Slot.unset).toArray = ls at hl ⊢
  have hl : lv_has ls 3 [(0, .ref th), (1, .ref t1)] := hl
  unfold f_X6_chargeAndTakeDown at hf
  refine lv_aload_n hx hb dX6_chargeAndTakeDown_0 rfl (lv_at hl 0 rfl) ?_
  refine lv_aload_n hx hb dX6_chargeAndTakeDown_1 rfl (lv_at hl 1 rfl) ?_
  obtain ⟨x2, hc1, hf⟩ := zb_inv hf
  refine z_ci (z_rV (As := [.ref t1]) (rest := []) ⟨hx, hb, hml, hown, hts⟩ (c_X6_feeOf (l := l) (D := D) (cy := cy) (base := base) (st := st) (K := K) (L := L) (c := c) (r := r) (o := o) (z := z) th t1 hk_th hk_t1 hc1) (cwV 1 hts gX6_chargeAndTakeDown_X6_feeOf rfl rfl rfl (by decide +kernel) ⟨Nat.le_of_ble_eq_true rfl, Nat.le_of_ble_eq_true rfl⟩) hG hC (zC.recv (ci := 6) (fs := _) hK hC (by rw [hk_th]; decide) (by rw [hk_th]; exact zc_6 cy _ _) rfl) rfl hl.1 rfl (lv_room (Nat.le_of_ble_eq_true rfl)) dX6_chargeAndTakeDown_2 ⟨Nat.le_of_ble_eq_true rfl, Nat.le_of_ble_eq_true rfl⟩) hC (fun H locs hC => ?_)
  refine lv_istore_n (lv' := [(2, .int x2), (0, .ref th), (1, .ref t1)]) hx hb dX6_chargeAndTakeDown_5 rfl hl (by decide) rfl (fun ls hl => ?_)
  refine lv_aload_n hx hb dX6_chargeAndTakeDown_6 rfl (lv_at hl 2 rfl) ?_
  refine lv_dup hx hb dX6_chargeAndTakeDown_7 rfl ?_
  refine zg_4_13 hx hb hts hi4 hown hK hC hk_t1 w0 dX6_chargeAndTakeDown_8 ?_
  refine lv_iload_n hx hb dX6_chargeAndTakeDown_11 rfl (lv_at hl 0 rfl) ?_
  refine lv_i2l (v := (Int32.toInt64 x2)) hx hb dX6_chargeAndTakeDown_12 rfl ?_
  refine lv_ladd hx hb dX6_chargeAndTakeDown_13 ?_
  obtain ⟨c3, ec3, hf⟩ := zlet_inv hf
  refine zp_4_13 hx hb hts hi4 hown hK hC hk_t1 w0 ec3 dX6_chargeAndTakeDown_14 (fun H locs hC => ?_)
  refine lv_aload_n hx hb dX6_chargeAndTakeDown_17 rfl (lv_at hl 1 rfl) ?_
  refine lv_dup hx hb dX6_chargeAndTakeDown_18 rfl ?_
  refine zg_6_14 hx hb hts hi6 hown hK hC hk_th w1 dX6_chargeAndTakeDown_19 ?_
  refine lv_iload_n hx hb dX6_chargeAndTakeDown_22 rfl (lv_at hl 0 rfl) ?_
  refine lv_i2l (v := (Int32.toInt64 x2)) hx hb dX6_chargeAndTakeDown_23 rfl ?_
  refine lv_ladd hx hb dX6_chargeAndTakeDown_24 ?_
  obtain ⟨c4, ec4, hf⟩ := zlet_inv hf
  refine zp_6_14 hx hb hts hi6 hown hK hC hk_th w1 ec4 dX6_chargeAndTakeDown_25 (fun H locs hC => ?_)
  refine lv_aload_n hx hb dX6_chargeAndTakeDown_28 rfl (lv_at hl 1 rfl) ?_
  refine lv_aload_n hx hb dX6_chargeAndTakeDown_29 rfl (lv_at hl 2 rfl) ?_
  obtain ⟨c7, hc5, hf⟩ := zb_inv hf
  refine z_cv (z_rV (As := [.ref t1]) (rest := []) ⟨hx, hb, hml, hown, hts⟩ (c_X6_takeDown (l := l) (D := D) (cy := cy) (base := base) (st := st) (K := K) (L := L) (c := c4) (r := r) (o := o) (z := z) th t1 hk_th hk_t1 hc5) (cwV 1 hts gX6_chargeAndTakeDown_X6_takeDown rfl rfl rfl (by decide +kernel) ⟨Nat.le_of_ble_eq_true rfl, Nat.le_of_ble_eq_true rfl⟩) hG hC (zC.recv (ci := 6) (fs := _) hK hC (by rw [hk_th]; decide) (by rw [hk_th]; exact zc_6 cy _ _) rfl) rfl hl.1 rfl (lv_room (Nat.le_of_ble_eq_true rfl)) dX6_chargeAndTakeDown_30 ⟨Nat.le_of_ble_eq_true rfl, Nat.le_of_ble_eq_true rfl⟩) hC (fun H locs hC => ?_)
  refine lv_iload_n hx hb dX6_chargeAndTakeDown_33 rfl (lv_at hl 0 rfl) ?_
  exact z_iretW hx hb hr hlocks hC hf dX6_chargeAndTakeDown_34
def f_X6_couldStand (K : Nat → Nat) (z : Nat) (c : zS) (th : Nat) (t1 : Nat) : Option Int32 :=
  zn K (zr c 83 t1 0) 1 fun a1 => (if (zi c 20 a1 0) = 0 then some 0 else zb (f_X6_isOutOfMonth K z c th t1) fun x3 => (if x3 = 0 then zb (f_X6_rowOrNull K z c th (zi c 21 a1 0)) fun o5 => zo K o5 0 (some 0) fun a6 => (if (zi c 2 a6 0) ≤ 0 then some 0 else some 1) else some 0))
set_option maxRecDepth 100000 in
set_option maxHeartbeats 4000000 in
theorem c_X6_couldStand {l : Launch} {D : va_G} {cy : Nat → ClassId} {base : Nat} {st : Nat → Nat} {K : Nat → Nat} {L : List Nat} {c r : zS} {o : Int64} {z : Nat} (th : Nat) (t1 : Nat) {rv : Int32}  (hk_th : K th = 6) (hk_t1 : K t1 = 4) (hf : f_X6_couldStand K z c th t1 = some rv) : Met l yX6_couldStand wsX6_couldStand ({ frames := 2, cells := 0, slots := 0, locals := 42 }) (va_Pc [.ref th, .ref t1] (zGW zts0 zns0 D cy base st K L (c, r, o))) (va_Qi (fun (rr : Int32) (_ : Unit) => rr = rv) (fun _ => zB D cy base K L (c, r, o)) (zA base)) 0 0 (zA base) := by
  refine Met.ofW (cc := cX6_couldStand) (maxL := 3) (ret := (some .boolean)) (by decide) rfl ?_
  intro p e s m args below meth cd s₁ B hml hv
  obtain ⟨rfl, hG⟩ := hv
  have hx := B.exec
  have hb := B.bytes
  have hr := B.returns
  have hts := atoms_spec (ws := wsX6_couldStand) B.pre
  have hown : s.vm.findClass RX6 = some m.cls := findClass_of_methodNamed B.named
  have hlocks := B.notSynchronized
  have hC := hG.enter
  have hK := hG.2.2.2.1
  have hi0 : ∀ w ∈ wsX00, w ∈ wsX6_couldStand := by decide +kernel
  have hi1 : ∀ w ∈ wsX10, w ∈ wsX6_couldStand := by decide +kernel
  have hi4 : ∀ w ∈ wsX40, w ∈ wsX6_couldStand := by decide +kernel
  have w0 := hts (.fieldLink RX6 120 "MarketSquare$Trader" "pitch" "LMarketSquare$Spot;") (by decide +kernel)
  have w1 := hts (.fieldLink RX6 227 "MarketSquare$Spot" "isSet" "Z") (by decide +kernel)
  have w2 := hts (.fieldLink RX6 414 "MarketSquare$Spot" "row" "I") (by decide +kernel)
  have w3 := hts (.fieldLink RX6 305 "MarketSquare$Row" "places" "I") (by decide +kernel)
  have hl := lv_entry ([.ref th, .ref t1]) (n := 3) (Nat.le_of_ble_eq_true rfl)
  rw [lg_entry_eq]
  generalize (lg_sl ([.ref th, .ref t1]) ++ List.replicate (3 - (lg_sl ([.ref th, .ref t1])).length) Slot.unset).toArray = ls at hl ⊢
  have hl : lv_has ls 3 [(0, .ref th), (1, .ref t1)] := hl
  unfold f_X6_couldStand at hf
  refine lv_aload_n hx hb dX6_couldStand_0 rfl (lv_at hl 1 rfl) ?_
  refine zg_4_3 hx hb hts hi4 hown hK hC hk_t1 w0 dX6_couldStand_1 ?_
  obtain ⟨a1, ea1, hk_a1, hf⟩ := zn_inv hf
  refine z_ref ea1 ?_
  refine zg_1_0 hx hb hts hi1 hown hK hC hk_a1 w1 dX6_couldStand_4 ?_
  refine lv_if_eq (tgt := 18) hx hb dX6_couldStand_7 (by decide) (fun h9 => ?_) (fun h9 => ?_)
  · have hf := zif_t hf h9
    refine lv_iconst (v := 0) hx hb dX6_couldStand_18 (by decide) ?_
    exact z_zret hx hb hr hlocks hC (Or.inl rfl) hf dX6_couldStand_19
  · have hf := zif_f hf h9
    refine lv_aload_n hx hb dX6_couldStand_10 rfl (lv_at hl 0 rfl) ?_
    refine lv_aload_n hx hb dX6_couldStand_11 rfl (lv_at hl 1 rfl) ?_
    obtain ⟨x3, hc2, hf⟩ := zb_inv hf
    refine z_ci (z_rV (As := [.ref t1]) (rest := []) ⟨hx, hb, hml, hown, hts⟩ (c_X6_isOutOfMonth (l := l) (D := D) (cy := cy) (base := base) (st := st) (K := K) (L := L) (c := c) (r := r) (o := o) (z := z) th t1 hk_th hk_t1 hc2) (cwV 1 hts gX6_couldStand_X6_isOutOfMonth rfl rfl rfl (by decide +kernel) ⟨Nat.le_of_ble_eq_true rfl, Nat.le_of_ble_eq_true rfl⟩) hG hC (zC.recv (ci := 6) (fs := _) hK hC (by rw [hk_th]; decide) (by rw [hk_th]; exact zc_6 cy _ _) rfl) rfl hl.1 rfl (lv_room (Nat.le_of_ble_eq_true rfl)) dX6_couldStand_12 ⟨Nat.le_of_ble_eq_true rfl, Nat.le_of_ble_eq_true rfl⟩) hC (fun H locs hC => ?_)
    refine lv_if_eq (tgt := 20) hx hb dX6_couldStand_15 (by decide) (fun h8 => ?_) (fun h8 => ?_)
    · have hf := zif_t hf h8
      refine lv_aload_n hx hb dX6_couldStand_20 rfl (lv_at hl 0 rfl) ?_
      refine lv_aload_n hx hb dX6_couldStand_21 rfl (lv_at hl 1 rfl) ?_
      refine zg_4_3 hx hb hts hi4 hown hK hC hk_t1 w0 dX6_couldStand_22 ?_
      refine z_ref ea1 ?_
      refine zg_1_1 hx hb hts hi1 hown hK hC hk_a1 w2 dX6_couldStand_25 ?_
      obtain ⟨o5, hc4, hf⟩ := zb_inv hf
      refine z_cq (z_rV (As := [.int (zi c 21 a1 0)]) (rest := []) ⟨hx, hb, hml, hown, hts⟩ (c_X6_rowOrNull (l := l) (D := D) (cy := cy) (base := base) (st := st) (K := K) (L := L) (c := c) (r := r) (o := o) (z := z) th (zi c 21 a1 0) hk_th hc4) (cwV 1 hts gX6_couldStand_X6_rowOrNull rfl rfl rfl (by decide +kernel) ⟨Nat.le_of_ble_eq_true rfl, Nat.le_of_ble_eq_true rfl⟩) hG hC (zC.recv (ci := 6) (fs := _) hK hC (by rw [hk_th]; decide) (by rw [hk_th]; exact zc_6 cy _ _) rfl) rfl hl.1 rfl (lv_room (Nat.le_of_ble_eq_true rfl)) dX6_couldStand_28 ⟨Nat.le_of_ble_eq_true rfl, Nat.le_of_ble_eq_true rfl⟩) hC (fun H locs hC => ?_)
      refine z_astore_n (lv' := [(2, va_rf o5), (0, .ref th), (1, .ref t1)]) hx hb dX6_couldStand_31 rfl hl (by decide) rfl (fun ls hl => ?_)
      refine z_aload_n hx hb dX6_couldStand_32 rfl (lv_at hl 0 rfl) ?_
      rcases zo_inv hf with ⟨e0, hf0⟩ | ⟨a6, e0, hk_a6, hf0⟩
      · subst e0; have hf := hf0
        have hl : lv_has ls 3 [(2, .null), (0, .ref th), (1, .ref t1)] := hl
        refine lv_ifnullN (tgt := 47) hx hb dX6_couldStand_33 (by decide) ?_
        refine lv_iconst (v := 0) hx hb dX6_couldStand_47 (by decide) ?_
        exact z_zret hx hb hr hlocks hC (Or.inl rfl) hf dX6_couldStand_48
      · subst e0; have hf := hf0
        have hl : lv_has ls 3 [(2, .ref a6), (0, .ref th), (1, .ref t1)] := hl
        refine lv_ifnull hx hb dX6_couldStand_33 ?_
        refine lv_aload_n hx hb dX6_couldStand_36 rfl (lv_at hl 0 rfl) ?_
        refine zg_0_2 hx hb hts hi0 hown hK hC hk_a6 w3 dX6_couldStand_37 ?_
        refine lv_if_le (tgt := 47) hx hb dX6_couldStand_40 (by decide) (fun h7 => ?_) (fun h7 => ?_)
        · have hf := zif_t hf h7
          refine lv_iconst (v := 0) hx hb dX6_couldStand_47 (by decide) ?_
          exact z_zret hx hb hr hlocks hC (Or.inl rfl) hf dX6_couldStand_48
        · have hf := zif_f hf h7
          refine lv_iconst (v := 1) hx hb dX6_couldStand_43 (by decide) ?_
          refine lv_goto (tgt := 48) hx hb dX6_couldStand_44 (by decide) ?_
          exact z_zret hx hb hr hlocks hC (Or.inr rfl) hf dX6_couldStand_48
    · have hf := zif_f hf h8
      refine lv_iconst (v := 0) hx hb dX6_couldStand_18 (by decide) ?_
      exact z_zret hx hb hr hlocks hC (Or.inl rfl) hf dX6_couldStand_19
def f_X6_writeUpDay_98 (K : Nat → Nat) (z : Nat) (th : Nat) (t1 : Nat) (c9 : zS) (v2 : Nat) (s0 : Nat) (s1 : Int32) : Option zS :=
  zz s1 <| zlet (zui c9 47 s0 0 s1) fun c11 => zb (f_X6_oneIf K z c11 (zi c11 47 v2 0)) fun x13 => zlet (zui c11 91 t1 0 ((((zi c11 91 t1 0) <<< (1 &&& 31)) ||| x13) &&& 255)) fun c14 => some c14
def f_X6_writeUpDay_97 (K : Nat → Nat) (z : Nat) (th : Nat) (t1 : Nat) (c9 : zS) (v2 : Nat) (s0 : Nat) : Option zS :=
  f_X6_writeUpDay_98 K z th t1 c9 v2 s0 0
def f_X6_writeUpDay_48 (K : Nat → Nat) (z : Nat) (th : Nat) (t1 : Nat) (c9 : zS) (v2 : Nat) : Option zS :=
  zb (f_X6_oneIf K z c9 (zi c9 42 v2 0)) fun x6 => zlet (zui c9 90 t1 0 ((((zi c9 90 t1 0) <<< (1 &&& 31)) ||| x6) &&& 255)) fun c7 => zb (f_X6_couldStand K z c7 th t1) fun x9 => (if x9 = 0 then some c7 else (if (zi c7 42 v2 0) = 0 then (if (zi c7 43 v2 0) = 0 then f_X6_writeUpDay_98 K z th t1 c7 v2 v2 1 else f_X6_writeUpDay_97 K z th t1 c7 v2 v2) else f_X6_writeUpDay_97 K z th t1 c7 v2 v2))
def f_X6_writeUpDay_32 (K : Nat → Nat) (z : Nat) (th : Nat) (t1 : Nat) (c9 : zS) (v2 : Nat) : Option zS :=
  zn K (zr c9 40 v2 0) 1 fun a4 => (if (zi c9 20 a4 0) = 0 then f_X6_writeUpDay_48 K z th t1 c9 v2 else zb2 (f_X6_chargeAndTakeDown K z c9 th t1) fun x19 c20 => f_X6_writeUpDay_48 K z th t1 c20 v2)
def f_X6_writeUpDay_22 (K : Nat → Nat) (z : Nat) (th : Nat) (t1 : Nat) (c9 : zS) (v2 : Nat) : Option zS :=
  zlet (zui c9 92 t1 0 ((zi c9 129 th 0) - 1)) fun c3 => f_X6_writeUpDay_32 K z th t1 c3 v2
def f_X6_writeUpDay (K : Nat → Nat) (z : Nat) (c : zS) (th : Nat) (t1 : Nat) : Option zS :=
  zn K (zr c 85 t1 0) 2 fun a1 => zn K (zr c 40 a1 0) 1 fun a2 => (if (zi c 20 a2 0) = 0 then (if (zi c 46 a1 0) = 0 then f_X6_writeUpDay_32 K z th t1 c a1 else f_X6_writeUpDay_22 K z th t1 c a1) else f_X6_writeUpDay_22 K z th t1 c a1)
set_option maxRecDepth 100000 in
set_option maxHeartbeats 4000000 in
theorem c_X6_writeUpDay {l : Launch} {D : va_G} {cy : Nat → ClassId} {base : Nat} {st : Nat → Nat} {K : Nat → Nat} {L : List Nat} {c r : zS} {o : Int64} {z : Nat} (th : Nat) (t1 : Nat) {cf : zS}  (hk_th : K th = 6) (hk_t1 : K t1 = 4) (hf : f_X6_writeUpDay K z c th t1 = some cf) : Met l yX6_writeUpDay wsX6_writeUpDay ({ frames := 4, cells := 0, slots := 0, locals := 89 }) (va_Pc [.ref th, .ref t1] (zGW zts0 zns0 D cy base st K L (c, r, o))) (va_Qv (fun (_ : Unit) => True) (fun _ => zB D cy base K L (cf, r, o)) (zA base)) 0 0 (zA base) := by
  refine Met.ofW (cc := cX6_writeUpDay) (maxL := 3) (ret := none) (by decide) rfl ?_
  intro p e s m args below meth cd s₁ B hml hv
  obtain ⟨rfl, hG⟩ := hv
  have hx := B.exec
  have hb := B.bytes
  have hr := B.returns
  have hts := atoms_spec (ws := wsX6_writeUpDay) B.pre
  have hown : s.vm.findClass RX6 = some m.cls := findClass_of_methodNamed B.named
  have hlocks := B.notSynchronized
  have hC := hG.enter
  have hK := hG.2.2.2.1
  have hi1 : ∀ w ∈ wsX10, w ∈ wsX6_writeUpDay := by decide +kernel
  have hi2 : ∀ w ∈ wsX20, w ∈ wsX6_writeUpDay := by decide +kernel
  have hi4 : ∀ w ∈ wsX40, w ∈ wsX6_writeUpDay := by decide +kernel
  have hi6 : ∀ w ∈ wsX60, w ∈ wsX6_writeUpDay := by decide +kernel
  have w0 := hts (.fieldLink RX6 168 "MarketSquare$Trader" "today" "LMarketSquare$Today;") (by decide +kernel)
  have w1 := hts (.fieldLink RX6 224 "MarketSquare$Today" "stall" "LMarketSquare$Spot;") (by decide +kernel)
  have w2 := hts (.fieldLink RX6 227 "MarketSquare$Spot" "isSet" "Z") (by decide +kernel)
  have w3 := hts (.fieldLink RX6 165 "MarketSquare" "days" "I") (by decide +kernel)
  have w4 := hts (.fieldLink RX6 285 "MarketSquare$Trader" "last" "I") (by decide +kernel)
  have w5 := hts (.fieldLink RX6 276 "MarketSquare$Trader" "thereDays" "I") (by decide +kernel)
  have w6 := hts (.fieldLink RX6 172 "MarketSquare$Today" "there" "Z") (by decide +kernel)
  have w7 := hts (.fieldLink RX6 444 "MarketSquare$Today" "away" "Z") (by decide +kernel)
  have w8 := hts (.fieldLink RX6 288 "MarketSquare$Trader" "awayDays" "I") (by decide +kernel)
  have w9 := hts (.fieldLink RX6 177 "MarketSquare$Today" "word" "Z") (by decide +kernel)
  have w10 := hts (.fieldLink RX6 240 "MarketSquare$Today" "left" "Z") (by decide +kernel)
  have hl := lv_entry ([.ref th, .ref t1]) (n := 3) (Nat.le_of_ble_eq_true rfl)
  rw [lg_entry_eq]
  generalize (lg_sl ([.ref th, .ref t1]) ++ List.replicate (3 - (lg_sl ([.ref th, .ref t1])).length) Slot.unset).toArray = ls at hl ⊢
  have hl : lv_has ls 3 [(0, .ref th), (1, .ref t1)] := hl
  have J98 : ∀ (c9 : zS) (H : Heap) (locs : List Loc) (ls : Array Slot) (v2 : Nat) (s0 : Nat) (s1 : Int32), K v2 = 2 → K s0 = 2 → zC D cy base K L (c9, r, o) s.heap H locs → lv_has ls 3 [(0, .ref th), (1, .ref t1), (2, .ref v2)] → f_X6_writeUpDay_98 K z th t1 c9 v2 s0 s1 = some cf → W p l e (headSpec wsX6_writeUpDay ({ frames := 4, cells := 0, slots := 0, locals := 89 })).room s m ([.ref th, .ref t1] : List Value).toArray below meth cd H locs 0 0 (MQ below (va_Qv (fun (_ : Unit) => True) (fun _ => zB D cy base K L (cf, r, o)) (zA base)) ([.ref th, .ref t1] : List Value).toArray s 0 0 (zA base)) (F0 m 98 ls [.int s1, .ref s0]) := by
    intro c9 H locs ls v2 s0 s1 hk_v2 hk_s0 hC hl hf
    unfold f_X6_writeUpDay_98 at hf
    obtain ⟨hz10, hf⟩ := zz_inv hf
    obtain ⟨c11, ec11, hf⟩ := zlet_inv hf
    refine zp_2_7 hx hb hts hi2 hown hK hC hk_s0 w7 hz10 ec11 dX6_writeUpDay_98 (fun H locs hC => ?_)
    refine lv_aload_n hx hb dX6_writeUpDay_101 rfl (lv_at hl 1 rfl) ?_
    refine lv_aload_n hx hb dX6_writeUpDay_102 rfl (lv_at hl 1 rfl) ?_
    refine zg_4_11 hx hb hts hi4 hown hK hC hk_t1 w8 dX6_writeUpDay_103 ?_
    refine lv_iconst (v := 1) hx hb dX6_writeUpDay_106 (by decide) ?_
    refine lv_ishl hx hb dX6_writeUpDay_107 ?_
    refine lv_aload_n hx hb dX6_writeUpDay_108 rfl (lv_at hl 2 rfl) ?_
    refine zg_2_7 hx hb hts hi2 hown hK hC hk_v2 w7 dX6_writeUpDay_109 ?_
    obtain ⟨x13, hc12, hf⟩ := zb_inv hf
    refine z_ci (z_rS (b := 0) (As := [.int (zi c11 47 v2 0)]) (rest := [.int ((zi c11 91 t1 0) <<< (1 &&& 31)), .ref t1]) ⟨hx, hb, hml, hown, hts⟩ (c_X6_oneIf (l := l) (D := D) (cy := cy) (base := base) (st := st) (K := K) (L := L) (c := c11) (r := r) (o := o) (z := z) (zi c11 47 v2 0)  hc12) (va_cwS 1 hts gX6_writeUpDay_X6_oneIf rfl rfl rfl (by decide +kernel) ⟨Nat.le_of_ble_eq_true rfl, Nat.le_of_ble_eq_true rfl⟩) hG hC rfl hl.1 rfl (lv_room (Nat.le_of_ble_eq_true rfl)) dX6_writeUpDay_112 ⟨Nat.le_of_ble_eq_true rfl, Nat.le_of_ble_eq_true rfl⟩) hC (fun H locs hC => ?_)
    refine lv_ior hx hb dX6_writeUpDay_115 ?_
    refine lv_sipush (v := 255) hx hb dX6_writeUpDay_116 (by decide) ?_
    refine lv_iand hx hb dX6_writeUpDay_119 ?_
    obtain ⟨c14, ec14, hf⟩ := zlet_inv hf
    refine zp_4_11 hx hb hts hi4 hown hK hC hk_t1 w8 ec14 dX6_writeUpDay_120 (fun H locs hC => ?_)
    exact z_vretW hx hb hr hlocks hC hf dX6_writeUpDay_123
  have J97 : ∀ (c9 : zS) (H : Heap) (locs : List Loc) (ls : Array Slot) (v2 : Nat) (s0 : Nat), K v2 = 2 → K s0 = 2 → zC D cy base K L (c9, r, o) s.heap H locs → lv_has ls 3 [(0, .ref th), (1, .ref t1), (2, .ref v2)] → f_X6_writeUpDay_97 K z th t1 c9 v2 s0 = some cf → W p l e (headSpec wsX6_writeUpDay ({ frames := 4, cells := 0, slots := 0, locals := 89 })).room s m ([.ref th, .ref t1] : List Value).toArray below meth cd H locs 0 0 (MQ below (va_Qv (fun (_ : Unit) => True) (fun _ => zB D cy base K L (cf, r, o)) (zA base)) ([.ref th, .ref t1] : List Value).toArray s 0 0 (zA base)) (F0 m 97 ls [.ref s0]) := by
    intro c9 H locs ls v2 s0 hk_v2 hk_s0 hC hl hf
    unfold f_X6_writeUpDay_97 at hf
    refine lv_iconst (v := 0) hx hb dX6_writeUpDay_97 (by decide) ?_
    exact J98 _ _ _ _ v2 s0 0 hk_v2 hk_s0 hC (lv_sub hl [0, 1, 2] rfl) hf
  have J48 : ∀ (c9 : zS) (H : Heap) (locs : List Loc) (ls : Array Slot) (v2 : Nat), K v2 = 2 → zC D cy base K L (c9, r, o) s.heap H locs → lv_has ls 3 [(0, .ref th), (1, .ref t1), (2, .ref v2)] → f_X6_writeUpDay_48 K z th t1 c9 v2 = some cf → W p l e (headSpec wsX6_writeUpDay ({ frames := 4, cells := 0, slots := 0, locals := 89 })).room s m ([.ref th, .ref t1] : List Value).toArray below meth cd H locs 0 0 (MQ below (va_Qv (fun (_ : Unit) => True) (fun _ => zB D cy base K L (cf, r, o)) (zA base)) ([.ref th, .ref t1] : List Value).toArray s 0 0 (zA base)) (F0 m 48 ls []) := by
    intro c9 H locs ls v2 hk_v2 hC hl hf
    unfold f_X6_writeUpDay_48 at hf
    refine lv_aload_n hx hb dX6_writeUpDay_48 rfl (lv_at hl 1 rfl) ?_
    refine lv_aload_n hx hb dX6_writeUpDay_49 rfl (lv_at hl 1 rfl) ?_
    refine zg_4_10 hx hb hts hi4 hown hK hC hk_t1 w5 dX6_writeUpDay_50 ?_
    refine lv_iconst (v := 1) hx hb dX6_writeUpDay_53 (by decide) ?_
    refine lv_ishl hx hb dX6_writeUpDay_54 ?_
    refine lv_aload_n hx hb dX6_writeUpDay_55 rfl (lv_at hl 2 rfl) ?_
    refine zg_2_2 hx hb hts hi2 hown hK hC hk_v2 w6 dX6_writeUpDay_56 ?_
    obtain ⟨x6, hc5, hf⟩ := zb_inv hf
    refine z_ci (z_rS (b := 0) (As := [.int (zi c9 42 v2 0)]) (rest := [.int ((zi c9 90 t1 0) <<< (1 &&& 31)), .ref t1]) ⟨hx, hb, hml, hown, hts⟩ (c_X6_oneIf (l := l) (D := D) (cy := cy) (base := base) (st := st) (K := K) (L := L) (c := c9) (r := r) (o := o) (z := z) (zi c9 42 v2 0)  hc5) (va_cwS 1 hts gX6_writeUpDay_X6_oneIf rfl rfl rfl (by decide +kernel) ⟨Nat.le_of_ble_eq_true rfl, Nat.le_of_ble_eq_true rfl⟩) hG hC rfl hl.1 rfl (lv_room (Nat.le_of_ble_eq_true rfl)) dX6_writeUpDay_59 ⟨Nat.le_of_ble_eq_true rfl, Nat.le_of_ble_eq_true rfl⟩) hC (fun H locs hC => ?_)
    refine lv_ior hx hb dX6_writeUpDay_62 ?_
    refine lv_sipush (v := 255) hx hb dX6_writeUpDay_63 (by decide) ?_
    refine lv_iand hx hb dX6_writeUpDay_66 ?_
    obtain ⟨c7, ec7, hf⟩ := zlet_inv hf
    refine zp_4_10 hx hb hts hi4 hown hK hC hk_t1 w5 ec7 dX6_writeUpDay_67 (fun H locs hC => ?_)
    refine lv_aload_n hx hb dX6_writeUpDay_70 rfl (lv_at hl 0 rfl) ?_
    refine lv_aload_n hx hb dX6_writeUpDay_71 rfl (lv_at hl 1 rfl) ?_
    obtain ⟨x9, hc8, hf⟩ := zb_inv hf
    refine z_ci (z_rV (As := [.ref t1]) (rest := []) ⟨hx, hb, hml, hown, hts⟩ (c_X6_couldStand (l := l) (D := D) (cy := cy) (base := base) (st := st) (K := K) (L := L) (c := c7) (r := r) (o := o) (z := z) th t1 hk_th hk_t1 hc8) (cwV 1 hts gX6_writeUpDay_X6_couldStand rfl rfl rfl (by decide +kernel) ⟨Nat.le_of_ble_eq_true rfl, Nat.le_of_ble_eq_true rfl⟩) hG hC (zC.recv (ci := 6) (fs := _) hK hC (by rw [hk_th]; decide) (by rw [hk_th]; exact zc_6 cy _ _) rfl) rfl hl.1 rfl (lv_room (Nat.le_of_ble_eq_true rfl)) dX6_writeUpDay_72 ⟨Nat.le_of_ble_eq_true rfl, Nat.le_of_ble_eq_true rfl⟩) hC (fun H locs hC => ?_)
    refine lv_if_eq (tgt := 123) hx hb dX6_writeUpDay_75 (by decide) (fun h17 => ?_) (fun h17 => ?_)
    · have hf := zif_t hf h17
      exact z_vretW hx hb hr hlocks hC hf dX6_writeUpDay_123
    · have hf := zif_f hf h17
      refine lv_aload_n hx hb dX6_writeUpDay_78 rfl (lv_at hl 2 rfl) ?_
      refine lv_aload_n hx hb dX6_writeUpDay_79 rfl (lv_at hl 2 rfl) ?_
      refine zg_2_2 hx hb hts hi2 hown hK hC hk_v2 w6 dX6_writeUpDay_80 ?_
      refine lv_if_ne (tgt := 97) hx hb dX6_writeUpDay_83 (by decide) (fun h16 => ?_) (fun h16 => ?_)
      · have hf := zif_f hf h16
        exact J97 _ _ _ _ v2 v2 hk_v2 hk_v2 hC (lv_sub hl [0, 1, 2] rfl) hf
      · have hf := zif_t hf h16
        refine lv_aload_n hx hb dX6_writeUpDay_86 rfl (lv_at hl 2 rfl) ?_
        refine zg_2_3 hx hb hts hi2 hown hK hC hk_v2 w9 dX6_writeUpDay_87 ?_
        refine lv_if_ne (tgt := 97) hx hb dX6_writeUpDay_90 (by decide) (fun h15 => ?_) (fun h15 => ?_)
        · have hf := zif_f hf h15
          exact J97 _ _ _ _ v2 v2 hk_v2 hk_v2 hC (lv_sub hl [0, 1, 2] rfl) hf
        · have hf := zif_t hf h15
          refine lv_iconst (v := 1) hx hb dX6_writeUpDay_93 (by decide) ?_
          refine lv_goto (tgt := 98) hx hb dX6_writeUpDay_94 (by decide) ?_
          exact J98 _ _ _ _ v2 v2 1 hk_v2 hk_v2 hC (lv_sub hl [0, 1, 2] rfl) hf
  have J32 : ∀ (c9 : zS) (H : Heap) (locs : List Loc) (ls : Array Slot) (v2 : Nat), K v2 = 2 → zC D cy base K L (c9, r, o) s.heap H locs → lv_has ls 3 [(0, .ref th), (1, .ref t1), (2, .ref v2)] → f_X6_writeUpDay_32 K z th t1 c9 v2 = some cf → W p l e (headSpec wsX6_writeUpDay ({ frames := 4, cells := 0, slots := 0, locals := 89 })).room s m ([.ref th, .ref t1] : List Value).toArray below meth cd H locs 0 0 (MQ below (va_Qv (fun (_ : Unit) => True) (fun _ => zB D cy base K L (cf, r, o)) (zA base)) ([.ref th, .ref t1] : List Value).toArray s 0 0 (zA base)) (F0 m 32 ls []) := by
    intro c9 H locs ls v2 hk_v2 hC hl hf
    unfold f_X6_writeUpDay_32 at hf
    refine lv_aload_n hx hb dX6_writeUpDay_32 rfl (lv_at hl 2 rfl) ?_
    refine zg_2_0 hx hb hts hi2 hown hK hC hk_v2 w1 dX6_writeUpDay_33 ?_
    obtain ⟨a4, ea4, hk_a4, hf⟩ := zn_inv hf
    refine z_ref ea4 ?_
    refine zg_1_0 hx hb hts hi1 hown hK hC hk_a4 w2 dX6_writeUpDay_36 ?_
    refine lv_if_eq (tgt := 48) hx hb dX6_writeUpDay_39 (by decide) (fun h21 => ?_) (fun h21 => ?_)
    · have hf := zif_t hf h21
      exact J48 _ _ _ _ v2 hk_v2 hC (lv_sub hl [0, 1, 2] rfl) hf
    · have hf := zif_f hf h21
      refine lv_aload_n hx hb dX6_writeUpDay_42 rfl (lv_at hl 0 rfl) ?_
      refine lv_aload_n hx hb dX6_writeUpDay_43 rfl (lv_at hl 1 rfl) ?_
      obtain ⟨x19, c20, hc18, hf⟩ := zb2_inv hf
      refine z_ci (z_rV (As := [.ref t1]) (rest := []) ⟨hx, hb, hml, hown, hts⟩ (c_X6_chargeAndTakeDown (l := l) (D := D) (cy := cy) (base := base) (st := st) (K := K) (L := L) (c := c9) (r := r) (o := o) (z := z) th t1 hk_th hk_t1 hc18) (cwV 1 hts gX6_writeUpDay_X6_chargeAndTakeDown rfl rfl rfl (by decide +kernel) ⟨Nat.le_of_ble_eq_true rfl, Nat.le_of_ble_eq_true rfl⟩) hG hC (zC.recv (ci := 6) (fs := _) hK hC (by rw [hk_th]; decide) (by rw [hk_th]; exact zc_6 cy _ _) rfl) rfl hl.1 rfl (lv_room (Nat.le_of_ble_eq_true rfl)) dX6_writeUpDay_44 ⟨Nat.le_of_ble_eq_true rfl, Nat.le_of_ble_eq_true rfl⟩) hC (fun H locs hC => ?_)
      refine lv_pop hx hb dX6_writeUpDay_47 rfl ?_
      exact J48 _ _ _ _ v2 hk_v2 hC (lv_sub hl [0, 1, 2] rfl) hf
  have J22 : ∀ (c9 : zS) (H : Heap) (locs : List Loc) (ls : Array Slot) (v2 : Nat), K v2 = 2 → zC D cy base K L (c9, r, o) s.heap H locs → lv_has ls 3 [(0, .ref th), (1, .ref t1), (2, .ref v2)] → f_X6_writeUpDay_22 K z th t1 c9 v2 = some cf → W p l e (headSpec wsX6_writeUpDay ({ frames := 4, cells := 0, slots := 0, locals := 89 })).room s m ([.ref th, .ref t1] : List Value).toArray below meth cd H locs 0 0 (MQ below (va_Qv (fun (_ : Unit) => True) (fun _ => zB D cy base K L (cf, r, o)) (zA base)) ([.ref th, .ref t1] : List Value).toArray s 0 0 (zA base)) (F0 m 22 ls []) := by
    intro c9 H locs ls v2 hk_v2 hC hl hf
    unfold f_X6_writeUpDay_22 at hf
    refine lv_aload_n hx hb dX6_writeUpDay_22 rfl (lv_at hl 1 rfl) ?_
    refine lv_aload_n hx hb dX6_writeUpDay_23 rfl (lv_at hl 0 rfl) ?_
    refine zg_6_9 hx hb hts hi6 hown hK hC hk_th w3 dX6_writeUpDay_24 ?_
    refine lv_iconst (v := 1) hx hb dX6_writeUpDay_27 (by decide) ?_
    refine lv_isub hx hb dX6_writeUpDay_28 ?_
    obtain ⟨c3, ec3, hf⟩ := zlet_inv hf
    refine zp_4_12 hx hb hts hi4 hown hK hC hk_t1 w4 ec3 dX6_writeUpDay_29 (fun H locs hC => ?_)
    exact J32 _ _ _ _ v2 hk_v2 hC (lv_sub hl [0, 1, 2] rfl) hf
  unfold f_X6_writeUpDay at hf
  refine lv_aload_n hx hb dX6_writeUpDay_0 rfl (lv_at hl 1 rfl) ?_
  refine zg_4_5 hx hb hts hi4 hown hK hC hk_t1 w0 dX6_writeUpDay_1 ?_
  obtain ⟨a1, ea1, hk_a1, hf⟩ := zn_inv hf
  refine z_ref ea1 ?_
  refine lv_astore_n (lv' := [(2, .ref a1), (0, .ref th), (1, .ref t1)]) hx hb dX6_writeUpDay_4 rfl hl (by decide) rfl (fun ls hl => ?_)
  refine lv_aload_n hx hb dX6_writeUpDay_5 rfl (lv_at hl 0 rfl) ?_
  refine zg_2_0 hx hb hts hi2 hown hK hC hk_a1 w1 dX6_writeUpDay_6 ?_
  obtain ⟨a2, ea2, hk_a2, hf⟩ := zn_inv hf
  refine z_ref ea2 ?_
  refine zg_1_0 hx hb hts hi1 hown hK hC hk_a2 w2 dX6_writeUpDay_9 ?_
  refine lv_if_ne (tgt := 22) hx hb dX6_writeUpDay_12 (by decide) (fun h23 => ?_) (fun h23 => ?_)
  · have hf := zif_f hf h23
    exact J22 _ _ _ _ a1 hk_a1 hC (lv_sub hl [1, 2, 0] rfl) hf
  · have hf := zif_t hf h23
    refine lv_aload_n hx hb dX6_writeUpDay_15 rfl (lv_at hl 0 rfl) ?_
    refine zg_2_6 hx hb hts hi2 hown hK hC hk_a1 w10 dX6_writeUpDay_16 ?_
    refine lv_if_eq (tgt := 32) hx hb dX6_writeUpDay_19 (by decide) (fun h22 => ?_) (fun h22 => ?_)
    · have hf := zif_t hf h22
      exact J32 _ _ _ _ a1 hk_a1 hC (lv_sub hl [1, 2, 0] rfl) hf
    · have hf := zif_f hf h22
      exact J22 _ _ _ _ a1 hk_a1 hC (lv_sub hl [1, 2, 0] rfl) hf
def f_X6_lineUpLosers_4 (K : Nat → Nat) (z : Nat) (th : Nat) : Nat → zS → Int32 → Int32 → Option (Int32 × zS)
  | 0, _, _, _ => none
  | n + 1, c9, v1, v2 =>
    (if (zi c9 126 th 0) ≤ v2 then some (v1, c9) else zn K (zr c9 123 th 0) 14 fun a1 => zx v2 200 <| zn K (zr c9 146 a1 (Int32.toNatClampNeg v2)) 4 fun a2 => zn K (zr c9 85 a2 0) 2 fun a3 => (if (zi c9 47 a3 0) = 0 then zlet (v2 + 1) fun x4 => f_X6_lineUpLosers_4 K z th n c9 v1 x4 else zb (f_J6_bitCount_0f7a4 K z c9 (zi c9 91 a2 0)) fun x6 => (if x6 < 3 then zlet (v2 + 1) fun x7 => f_X6_lineUpLosers_4 K z th n c9 v1 x7 else zn K (zr c9 124 th 0) 15 fun a8 => zx v1 200 <| zlet (zur c9 147 a8 (Int32.toNatClampNeg v1) (some a2)) fun c9 => zlet (v1 + 1) fun x10 => zlet (v2 + 1) fun x11 => f_X6_lineUpLosers_4 K z th n c9 x10 x11)))
def f_X6_lineUpLosers (K : Nat → Nat) (z : Nat) (c : zS) (th : Nat) : Option (Int32 × zS) :=
  f_X6_lineUpLosers_4 K z th z c 0 0
set_option maxRecDepth 100000 in
set_option maxHeartbeats 4000000 in
theorem c_X6_lineUpLosers {l : Launch} {D : va_G} {cy : Nat → ClassId} {base : Nat} {st : Nat → Nat} {K : Nat → Nat} {L : List Nat} {c r : zS} {o : Int64} {z : Nat} (th : Nat) {rv : Int32} {cf : zS}  (hk_th : K th = 6) (hf : f_X6_lineUpLosers K z c th = some (rv, cf)) : Met l yX6_lineUpLosers wsX6_lineUpLosers ({ frames := 1, cells := 0, slots := 0, locals := 20 }) (va_Pc [.ref th] (zGW zts0 zns0 D cy base st K L (c, r, o))) (va_Qi (fun (rr : Int32) (_ : Unit) => rr = rv) (fun _ => zB D cy base K L (cf, r, o)) (zA base)) 0 0 (zA base) := by
  refine Met.ofW (cc := cX6_lineUpLosers) (maxL := 4) (ret := (some .int)) (by decide) rfl ?_
  intro p e s m args below meth cd s₁ B hml hv
  obtain ⟨rfl, hG⟩ := hv
  have hx := B.exec
  have hb := B.bytes
  have hr := B.returns
  have hts := atoms_spec (ws := wsX6_lineUpLosers) B.pre
  have hown : s.vm.findClass RX6 = some m.cls := findClass_of_methodNamed B.named
  have hlocks := B.notSynchronized
  have hC := hG.enter
  have hK := hG.2.2.2.1
  have hi2 : ∀ w ∈ wsX20, w ∈ wsX6_lineUpLosers := by decide +kernel
  have hi4 : ∀ w ∈ wsX40, w ∈ wsX6_lineUpLosers := by decide +kernel
  have hi6 : ∀ w ∈ wsX60, w ∈ wsX6_lineUpLosers := by decide +kernel
  have w0 := hts (.fieldLink RX6 100 "MarketSquare" "traderCount" "I") (by decide +kernel)
  have w1 := hts (.fieldLink RX6 27 "MarketSquare" "ranked" "[LMarketSquare$Trader;") (by decide +kernel)
  have w2 := hts (.fieldLink RX6 168 "MarketSquare$Trader" "today" "LMarketSquare$Today;") (by decide +kernel)
  have w3 := hts (.fieldLink RX6 444 "MarketSquare$Today" "away" "Z") (by decide +kernel)
  have w4 := hts (.fieldLink RX6 288 "MarketSquare$Trader" "awayDays" "I") (by decide +kernel)
  have w5 := hts (.fieldLink RX6 30 "MarketSquare" "line" "[LMarketSquare$Trader;") (by decide +kernel)
  have hl := lv_entry ([.ref th]) (n := 4) (Nat.le_of_ble_eq_true rfl)
  rw [lg_entry_eq]
  generalize (lg_sl ([.ref th]) ++ List.replicate (4 - (lg_sl ([.ref th])).length) Slot.unset).toArray = ls at hl ⊢
  have hl : lv_has ls 4 [(0, .ref th)] := hl
  have L4 : ∀ (n4 : Nat) (c9 : zS) (H : Heap) (locs : List Loc) (ls : Array Slot) (v1 : Int32) (v2 : Int32), zC D cy base K L (c9, r, o) s.heap H locs → lv_has ls 4 [(0, .ref th), (1, .int v1), (2, .int v2)] → f_X6_lineUpLosers_4 K z th n4 c9 v1 v2 = some (rv, cf) → W p l e (headSpec wsX6_lineUpLosers ({ frames := 1, cells := 0, slots := 0, locals := 20 })).room s m ([.ref th] : List Value).toArray below meth cd H locs 0 0 (MQ below (va_Qi (fun (rr : Int32) (_ : Unit) => rr = rv) (fun _ => zB D cy base K L (cf, r, o)) (zA base)) ([.ref th] : List Value).toArray s 0 0 (zA base)) (F0 m 4 ls []) := by
    intro n4
    induction n4 with
    | zero => intro c9 H locs ls v1 v2 hC hl hf; rw [f_X6_lineUpLosers_4] at hf; cases hf
    | succ n4 ih4 =>
      intro c9 H locs ls v1 v2 hC hl hf
      rw [f_X6_lineUpLosers_4] at hf
      refine lv_iload_n hx hb dX6_lineUpLosers_4 rfl (lv_at hl 2 rfl) ?_
      refine lv_aload_n hx hb dX6_lineUpLosers_5 rfl (lv_at hl 0 rfl) ?_
      refine zg_6_6 hx hb hts hi6 hown hK hC hk_th w0 dX6_lineUpLosers_6 ?_
      refine lv_icmp_ge (tgt := 56) hx hb dX6_lineUpLosers_9 (by decide) (fun h14 => ?_) (fun h14 => ?_)
      · have hf := zif_t hf h14
        refine lv_iload_n hx hb dX6_lineUpLosers_56 rfl (lv_at hl 1 rfl) ?_
        exact z_iretW hx hb hr hlocks hC hf dX6_lineUpLosers_57
      · have hf := zif_f hf h14
        refine lv_aload_n hx hb dX6_lineUpLosers_12 rfl (lv_at hl 0 rfl) ?_
        refine zg_6_3 hx hb hts hi6 hown hK hC hk_th w1 dX6_lineUpLosers_13 ?_
        obtain ⟨a1, ea1, hk_a1, hf⟩ := zn_inv hf
        refine z_ref ea1 ?_
        refine lv_iload_n hx hb dX6_lineUpLosers_16 rfl (lv_at hl 2 rfl) ?_
        obtain ⟨hix, hf⟩ := zx_inv hf
        refine xg_14 hx hb hK hC hk_a1 hix dX6_lineUpLosers_17 ?_
        obtain ⟨a2, ea2, hk_a2, hf⟩ := zn_inv hf
        refine z_ref ea2 ?_
        refine lv_astore_n (lv' := [(3, .ref a2), (0, .ref th), (1, .int v1), (2, .int v2)]) hx hb dX6_lineUpLosers_18 rfl hl (by decide) rfl (fun ls hl => ?_)
        refine lv_aload_n hx hb dX6_lineUpLosers_19 rfl (lv_at hl 0 rfl) ?_
        refine zg_4_5 hx hb hts hi4 hown hK hC hk_a2 w2 dX6_lineUpLosers_20 ?_
        obtain ⟨a3, ea3, hk_a3, hf⟩ := zn_inv hf
        refine z_ref ea3 ?_
        refine zg_2_7 hx hb hts hi2 hown hK hC hk_a3 w3 dX6_lineUpLosers_23 ?_
        refine lv_if_eq (tgt := 50) hx hb dX6_lineUpLosers_26 (by decide) (fun h13 => ?_) (fun h13 => ?_)
        · have hf := zif_t hf h13
          obtain ⟨x4, ex4, hf⟩ := zlet_inv hf
          refine lv_iinc (v := x4) (lv' := [(2, .int x4), (3, .ref a2), (0, .ref th), (1, .int v1)]) hx hb dX6_lineUpLosers_50 hl (k := 3) rfl (by rw [ex4]; rfl) (by decide) rfl (fun ls hl => ?_)
          refine lv_goto (tgt := 4) hx hb dX6_lineUpLosers_53 (by decide) ?_
          exact ih4 _ _ _ _ v1 x4 hC (lv_sub hl [2, 3, 0] rfl) hf
        · have hf := zif_f hf h13
          refine lv_aload_n hx hb dX6_lineUpLosers_29 rfl (lv_at hl 0 rfl) ?_
          refine zg_4_11 hx hb hts hi4 hown hK hC hk_a2 w4 dX6_lineUpLosers_30 ?_
          obtain ⟨x6, hc5, hf⟩ := zb_inv hf
          refine z_ci (z_rS (b := 0) (As := [.int (zi c9 91 a2 0)]) (rest := []) ⟨hx, hb, hml, hown, hts⟩ (c_J6_bitCount_0f7a4 (l := l) (D := D) (cy := cy) (base := base) (st := st) (K := K) (L := L) (c := c9) (r := r) (o := o) (z := z) (zi c9 91 a2 0)  hc5) (va_cwS 1 hts gX6_lineUpLosers_J6_bitCount_0f7a4 rfl rfl rfl (by decide +kernel) ⟨Nat.le_of_ble_eq_true rfl, Nat.le_of_ble_eq_true rfl⟩) hG hC rfl hl.1 rfl (lv_room (Nat.le_of_ble_eq_true rfl)) dX6_lineUpLosers_33 ⟨Nat.le_of_ble_eq_true rfl, Nat.le_of_ble_eq_true rfl⟩) hC (fun H locs hC => ?_)
          refine lv_iconst (v := 3) hx hb dX6_lineUpLosers_36 (by decide) ?_
          refine lv_icmp_lt (tgt := 50) hx hb dX6_lineUpLosers_37 (by decide) (fun h12 => ?_) (fun h12 => ?_)
          · have hf := zif_t hf h12
            obtain ⟨x7, ex7, hf⟩ := zlet_inv hf
            refine lv_iinc (v := x7) (lv' := [(2, .int x7), (3, .ref a2), (0, .ref th), (1, .int v1)]) hx hb dX6_lineUpLosers_50 hl (k := 3) rfl (by rw [ex7]; rfl) (by decide) rfl (fun ls hl => ?_)
            refine lv_goto (tgt := 4) hx hb dX6_lineUpLosers_53 (by decide) ?_
            exact ih4 _ _ _ _ v1 x7 hC (lv_sub hl [2, 3, 0] rfl) hf
          · have hf := zif_f hf h12
            refine lv_aload_n hx hb dX6_lineUpLosers_40 rfl (lv_at hl 1 rfl) ?_
            refine zg_6_4 hx hb hts hi6 hown hK hC hk_th w5 dX6_lineUpLosers_41 ?_
            obtain ⟨a8, ea8, hk_a8, hf⟩ := zn_inv hf
            refine z_ref ea8 ?_
            refine lv_iload_n hx hb dX6_lineUpLosers_44 rfl (lv_at hl 2 rfl) ?_
            refine lv_aload_n hx hb dX6_lineUpLosers_45 rfl (lv_at hl 0 rfl) ?_
            obtain ⟨hix, hf⟩ := zx_inv hf
            obtain ⟨c9, ec9, hf⟩ := zlet_inv hf
            refine xp_15 hx hb hK hC hk_a8 hix hk_a2 ec9 dX6_lineUpLosers_46 (fun H locs hC => ?_)
            obtain ⟨x10, ex10, hf⟩ := zlet_inv hf
            refine lv_iinc (v := x10) (lv' := [(1, .int x10), (3, .ref a2), (0, .ref th), (2, .int v2)]) hx hb dX6_lineUpLosers_47 hl (k := 2) rfl (by rw [ex10]; rfl) (by decide) rfl (fun ls hl => ?_)
            obtain ⟨x11, ex11, hf⟩ := zlet_inv hf
            refine lv_iinc (v := x11) (lv' := [(2, .int x11), (1, .int x10), (3, .ref a2), (0, .ref th)]) hx hb dX6_lineUpLosers_50 hl (k := 3) rfl (by rw [ex11]; rfl) (by decide) rfl (fun ls hl => ?_)
            refine lv_goto (tgt := 4) hx hb dX6_lineUpLosers_53 (by decide) ?_
            exact ih4 _ _ _ _ x10 x11 hC (lv_sub hl [3, 1, 0] rfl) hf
  unfold f_X6_lineUpLosers at hf
  refine lv_iconst (v := 0) hx hb dX6_lineUpLosers_0 (by decide) ?_
  refine lv_istore_n (lv' := [(1, .int 0), (0, .ref th)]) hx hb dX6_lineUpLosers_1 rfl hl (by decide) rfl (fun ls hl => ?_)
  refine lv_iconst (v := 0) hx hb dX6_lineUpLosers_2 (by decide) ?_
  refine lv_istore_n (lv' := [(2, .int 0), (1, .int 0), (0, .ref th)]) hx hb dX6_lineUpLosers_3 rfl hl (by decide) rfl (fun ls hl => ?_)
  exact L4 z _ _ _ _ 0 0 hC (lv_sub hl [2, 1, 0] rfl) hf
def f_X4_isInDebt (K : Nat → Nat) (z : Nat) (c : zS) (th : Nat) : Option Int32 :=
  (if (lg_cmp (zl c 93 th 0) 5000) ≤ 0 then some 0 else some 1)
set_option maxRecDepth 100000 in
set_option maxHeartbeats 4000000 in
theorem c_X4_isInDebt {l : Launch} {D : va_G} {cy : Nat → ClassId} {base : Nat} {st : Nat → Nat} {K : Nat → Nat} {L : List Nat} {c r : zS} {o : Int64} {z : Nat} (th : Nat) {rv : Int32}  (hk_th : K th = 4) (hf : f_X4_isInDebt K z c th = some rv) : Met l yX4_isInDebt wsX4_isInDebt ({ frames := 0, cells := 0, slots := 0, locals := 0 }) (va_Pc [.ref th] (zGW zts0 zns0 D cy base st K L (c, r, o))) (va_Qi (fun (rr : Int32) (_ : Unit) => rr = rv) (fun _ => zB D cy base K L (c, r, o)) (zA base)) 0 0 (zA base) := by
  refine Met.ofW (cc := cX4_isInDebt) (maxL := 1) (ret := (some .boolean)) (by decide) rfl ?_
  intro p e s m args below meth cd s₁ B hml hv
  obtain ⟨rfl, hG⟩ := hv
  have hx := B.exec
  have hb := B.bytes
  have hr := B.returns
  have hts := atoms_spec (ws := wsX4_isInDebt) B.pre
  have hown : s.vm.findClass RX4 = some m.cls := findClass_of_methodNamed B.named
  have hlocks := B.notSynchronized
  have hC := hG.enter
  have hK := hG.2.2.2.1
  have hi4 : ∀ w ∈ wsX40, w ∈ wsX4_isInDebt := by decide +kernel
  have w0 := hts (.fieldLink RX4 68 "MarketSquare$Trader" "owed" "J") (by decide +kernel)
  have w1 := hts (.constantLong RX4 72 5000) (by decide +kernel)
  have hl := lv_entry ([.ref th]) (n := 1) (Nat.le_of_ble_eq_true rfl)
  rw [lg_entry_eq]
  generalize (lg_sl ([.ref th]) ++ List.replicate (1 - (lg_sl ([.ref th])).length) Slot.unset).toArray = ls at hl ⊢
  have hl : lv_has ls 1 [(0, .ref th)] := hl
  unfold f_X4_isInDebt at hf
  refine lv_aload_n hx hb dX4_isInDebt_0 rfl (lv_at hl 0 rfl) ?_
  refine zg_4_13 hx hb hts hi4 hown hK hC hk_th w0 dX4_isInDebt_1 ?_
  refine lv_ldc2 (v := 5000) hx hb hown w1 dX4_isInDebt_4 ?_
  refine W.lcmp hx hb dX4_isInDebt_7 ?_
  refine lv_if_le (tgt := 15) hx hb dX4_isInDebt_8 (by decide) (fun h1 => ?_) (fun h1 => ?_)
  · have hf := zif_t hf h1
    refine lv_iconst (v := 0) hx hb dX4_isInDebt_15 (by decide) ?_
    exact z_zret hx hb hr hlocks hC (Or.inl rfl) hf dX4_isInDebt_16
  · have hf := zif_f hf h1
    refine lv_iconst (v := 1) hx hb dX4_isInDebt_11 (by decide) ?_
    refine lv_goto (tgt := 16) hx hb dX4_isInDebt_12 (by decide) ?_
    exact z_zret hx hb hr hlocks hC (Or.inr rfl) hf dX4_isInDebt_16
def f_X6_isAheadUnslighted (K : Nat → Nat) (z : Nat) (c : zS) (t1 : Nat) (t2 : Nat) : Option Int32 :=
  zb (f_X4_isInDebt K z c t1) fun x2 => zb (f_X4_isInDebt K z c t2) fun x4 => (if x2 = x4 then zb (f_J6_bitCount_0f7a4 K z c (zi c 90 t1 0)) fun x6 => zb (f_J6_bitCount_0f7a4 K z c (zi c 90 t2 0)) fun x8 => (if x6 = x8 then (if (zi c 92 t1 0) = (zi c 92 t2 0) then (if (zi c 87 t2 0) ≤ (zi c 87 t1 0) then some 0 else some 1) else (if (zi c 92 t2 0) ≤ (zi c 92 t1 0) then some 0 else some 1)) else (if x6 ≤ x8 then some 0 else some 1)) else zb (f_X4_isInDebt K z c t2) fun x15 => zz x15 <| some x15)
set_option maxRecDepth 100000 in
set_option maxHeartbeats 4000000 in
theorem c_X6_isAheadUnslighted {l : Launch} {D : va_G} {cy : Nat → ClassId} {base : Nat} {st : Nat → Nat} {K : Nat → Nat} {L : List Nat} {c r : zS} {o : Int64} {z : Nat} (t1 : Nat) (t2 : Nat) {rv : Int32}  (hk_t1 : K t1 = 4) (hk_t2 : K t2 = 4) (hf : f_X6_isAheadUnslighted K z c t1 t2 = some rv) : Met l yX6_isAheadUnslighted wsX6_isAheadUnslighted ({ frames := 1, cells := 0, slots := 0, locals := 20 }) (va_Pc [.ref t1, .ref t2] (zGW zts0 zns0 D cy base st K L (c, r, o))) (va_Qi (fun (rr : Int32) (_ : Unit) => rr = rv) (fun _ => zB D cy base K L (c, r, o)) (zA base)) 0 0 (zA base) := by
  refine Met.ofW (cc := cX6_isAheadUnslighted) (maxL := 4) (ret := (some .boolean)) (by decide) rfl ?_
  intro p e s m args below meth cd s₁ B hml hv
  obtain ⟨rfl, hG⟩ := hv
  have hx := B.exec
  have hb := B.bytes
  have hr := B.returns
  have hts := atoms_spec (ws := wsX6_isAheadUnslighted) B.pre
  have hown : s.vm.findClass RX6 = some m.cls := findClass_of_methodNamed B.named
  have hlocks := B.notSynchronized
  have hC := hG.enter
  have hK := hG.2.2.2.1
  have hi4 : ∀ w ∈ wsX40, w ∈ wsX6_isAheadUnslighted := by decide +kernel
  have w0 := hts (.fieldLink RX6 276 "MarketSquare$Trader" "thereDays" "I") (by decide +kernel)
  have w1 := hts (.fieldLink RX6 285 "MarketSquare$Trader" "last" "I") (by decide +kernel)
  have w2 := hts (.fieldLink RX6 263 "MarketSquare$Trader" "rank" "I") (by decide +kernel)
  have hl := lv_entry ([.ref t1, .ref t2]) (n := 4) (Nat.le_of_ble_eq_true rfl)
  rw [lg_entry_eq]
  generalize (lg_sl ([.ref t1, .ref t2]) ++ List.replicate (4 - (lg_sl ([.ref t1, .ref t2])).length) Slot.unset).toArray = ls at hl ⊢
  have hl : lv_has ls 4 [(0, .ref t1), (1, .ref t2)] := hl
  unfold f_X6_isAheadUnslighted at hf
  refine lv_aload_n hx hb dX6_isAheadUnslighted_0 rfl (lv_at hl 0 rfl) ?_
  obtain ⟨x2, hc1, hf⟩ := zb_inv hf
  refine z_ci (z_rV (As := []) (rest := []) ⟨hx, hb, hml, hown, hts⟩ (c_X4_isInDebt (l := l) (D := D) (cy := cy) (base := base) (st := st) (K := K) (L := L) (c := c) (r := r) (o := o) (z := z) t1 hk_t1 hc1) (cwV 0 hts gX6_isAheadUnslighted_X4_isInDebt rfl rfl rfl (by decide +kernel) ⟨Nat.le_of_ble_eq_true rfl, Nat.le_of_ble_eq_true rfl⟩) hG hC (zC.recv (ci := 4) (fs := _) hK hC (by rw [hk_t1]; decide) (by rw [hk_t1]; exact zc_4 cy _ _) rfl) rfl hl.1 rfl (lv_room (Nat.le_of_ble_eq_true rfl)) dX6_isAheadUnslighted_1 ⟨Nat.le_of_ble_eq_true rfl, Nat.le_of_ble_eq_true rfl⟩) hC (fun H locs hC => ?_)
  refine lv_aload_n hx hb dX6_isAheadUnslighted_4 rfl (lv_at hl 1 rfl) ?_
  obtain ⟨x4, hc3, hf⟩ := zb_inv hf
  refine z_ci (z_rV (As := []) (rest := [.int x2]) ⟨hx, hb, hml, hown, hts⟩ (c_X4_isInDebt (l := l) (D := D) (cy := cy) (base := base) (st := st) (K := K) (L := L) (c := c) (r := r) (o := o) (z := z) t2 hk_t2 hc3) (cwV 0 hts gX6_isAheadUnslighted_X4_isInDebt rfl rfl rfl (by decide +kernel) ⟨Nat.le_of_ble_eq_true rfl, Nat.le_of_ble_eq_true rfl⟩) hG hC (zC.recv (ci := 4) (fs := _) hK hC (by rw [hk_t2]; decide) (by rw [hk_t2]; exact zc_4 cy _ _) rfl) rfl hl.1 rfl (lv_room (Nat.le_of_ble_eq_true rfl)) dX6_isAheadUnslighted_5 ⟨Nat.le_of_ble_eq_true rfl, Nat.le_of_ble_eq_true rfl⟩) hC (fun H locs hC => ?_)
  refine lv_icmp_eq (tgt := 16) hx hb dX6_isAheadUnslighted_8 (by decide) (fun h17 => ?_) (fun h17 => ?_)
  · have hf := zif_t hf h17
    refine lv_aload_n hx hb dX6_isAheadUnslighted_16 rfl (lv_at hl 0 rfl) ?_
    refine zg_4_10 hx hb hts hi4 hown hK hC hk_t1 w0 dX6_isAheadUnslighted_17 ?_
    obtain ⟨x6, hc5, hf⟩ := zb_inv hf
    refine z_ci (z_rS (b := 0) (As := [.int (zi c 90 t1 0)]) (rest := []) ⟨hx, hb, hml, hown, hts⟩ (c_J6_bitCount_0f7a4 (l := l) (D := D) (cy := cy) (base := base) (st := st) (K := K) (L := L) (c := c) (r := r) (o := o) (z := z) (zi c 90 t1 0)  hc5) (va_cwS 1 hts gX6_isAheadUnslighted_J6_bitCount_0f7a4 rfl rfl rfl (by decide +kernel) ⟨Nat.le_of_ble_eq_true rfl, Nat.le_of_ble_eq_true rfl⟩) hG hC rfl hl.1 rfl (lv_room (Nat.le_of_ble_eq_true rfl)) dX6_isAheadUnslighted_20 ⟨Nat.le_of_ble_eq_true rfl, Nat.le_of_ble_eq_true rfl⟩) hC (fun H locs hC => ?_)
    refine lv_istore_n (lv' := [(2, .int x6), (0, .ref t1), (1, .ref t2)]) hx hb dX6_isAheadUnslighted_23 rfl hl (by decide) rfl (fun ls hl => ?_)
    refine lv_aload_n hx hb dX6_isAheadUnslighted_24 rfl (lv_at hl 2 rfl) ?_
    refine zg_4_10 hx hb hts hi4 hown hK hC hk_t2 w0 dX6_isAheadUnslighted_25 ?_
    obtain ⟨x8, hc7, hf⟩ := zb_inv hf
    refine z_ci (z_rS (b := 0) (As := [.int (zi c 90 t2 0)]) (rest := []) ⟨hx, hb, hml, hown, hts⟩ (c_J6_bitCount_0f7a4 (l := l) (D := D) (cy := cy) (base := base) (st := st) (K := K) (L := L) (c := c) (r := r) (o := o) (z := z) (zi c 90 t2 0)  hc7) (va_cwS 1 hts gX6_isAheadUnslighted_J6_bitCount_0f7a4 rfl rfl rfl (by decide +kernel) ⟨Nat.le_of_ble_eq_true rfl, Nat.le_of_ble_eq_true rfl⟩) hG hC rfl hl.1 rfl (lv_room (Nat.le_of_ble_eq_true rfl)) dX6_isAheadUnslighted_28 ⟨Nat.le_of_ble_eq_true rfl, Nat.le_of_ble_eq_true rfl⟩) hC (fun H locs hC => ?_)
    refine lv_istore_n (lv' := [(3, .int x8), (2, .int x6), (0, .ref t1), (1, .ref t2)]) hx hb dX6_isAheadUnslighted_31 rfl hl (by decide) rfl (fun ls hl => ?_)
    refine lv_iload_n hx hb dX6_isAheadUnslighted_32 rfl (lv_at hl 1 rfl) ?_
    refine lv_iload_n hx hb dX6_isAheadUnslighted_33 rfl (lv_at hl 0 rfl) ?_
    refine lv_icmp_eq (tgt := 48) hx hb dX6_isAheadUnslighted_34 (by decide) (fun h13 => ?_) (fun h13 => ?_)
    · have hf := zif_t hf h13
      refine lv_aload_n hx hb dX6_isAheadUnslighted_48 rfl (lv_at hl 2 rfl) ?_
      refine zg_4_12 hx hb hts hi4 hown hK hC hk_t1 w1 dX6_isAheadUnslighted_49 ?_
      refine lv_aload_n hx hb dX6_isAheadUnslighted_52 rfl (lv_at hl 3 rfl) ?_
      refine zg_4_12 hx hb hts hi4 hown hK hC hk_t2 w1 dX6_isAheadUnslighted_53 ?_
      refine lv_icmp_eq (tgt := 78) hx hb dX6_isAheadUnslighted_56 (by decide) (fun h11 => ?_) (fun h11 => ?_)
      · have hf := zif_t hf h11
        refine lv_aload_n hx hb dX6_isAheadUnslighted_78 rfl (lv_at hl 2 rfl) ?_
        refine zg_4_7 hx hb hts hi4 hown hK hC hk_t1 w2 dX6_isAheadUnslighted_79 ?_
        refine lv_aload_n hx hb dX6_isAheadUnslighted_82 rfl (lv_at hl 3 rfl) ?_
        refine zg_4_7 hx hb hts hi4 hown hK hC hk_t2 w2 dX6_isAheadUnslighted_83 ?_
        refine lv_icmp_ge (tgt := 93) hx hb dX6_isAheadUnslighted_86 (by decide) (fun h9 => ?_) (fun h9 => ?_)
        · have hf := zif_t hf h9
          refine lv_iconst (v := 0) hx hb dX6_isAheadUnslighted_93 (by decide) ?_
          exact z_zret hx hb hr hlocks hC (Or.inl rfl) hf dX6_isAheadUnslighted_94
        · have hf := zif_f hf h9
          refine lv_iconst (v := 1) hx hb dX6_isAheadUnslighted_89 (by decide) ?_
          refine lv_goto (tgt := 94) hx hb dX6_isAheadUnslighted_90 (by decide) ?_
          exact z_zret hx hb hr hlocks hC (Or.inr rfl) hf dX6_isAheadUnslighted_94
      · have hf := zif_f hf h11
        refine lv_aload_n hx hb dX6_isAheadUnslighted_59 rfl (lv_at hl 2 rfl) ?_
        refine zg_4_12 hx hb hts hi4 hown hK hC hk_t1 w1 dX6_isAheadUnslighted_60 ?_
        refine lv_aload_n hx hb dX6_isAheadUnslighted_63 rfl (lv_at hl 3 rfl) ?_
        refine zg_4_12 hx hb hts hi4 hown hK hC hk_t2 w1 dX6_isAheadUnslighted_64 ?_
        refine lv_icmp_ge (tgt := 74) hx hb dX6_isAheadUnslighted_67 (by decide) (fun h10 => ?_) (fun h10 => ?_)
        · have hf := zif_t hf h10
          refine lv_iconst (v := 0) hx hb dX6_isAheadUnslighted_74 (by decide) ?_
          refine lv_goto (tgt := 94) hx hb dX6_isAheadUnslighted_75 (by decide) ?_
          exact z_zret hx hb hr hlocks hC (Or.inl rfl) hf dX6_isAheadUnslighted_94
        · have hf := zif_f hf h10
          refine lv_iconst (v := 1) hx hb dX6_isAheadUnslighted_70 (by decide) ?_
          refine lv_goto (tgt := 94) hx hb dX6_isAheadUnslighted_71 (by decide) ?_
          exact z_zret hx hb hr hlocks hC (Or.inr rfl) hf dX6_isAheadUnslighted_94
    · have hf := zif_f hf h13
      refine lv_iload_n hx hb dX6_isAheadUnslighted_37 rfl (lv_at hl 1 rfl) ?_
      refine lv_iload_n hx hb dX6_isAheadUnslighted_38 rfl (lv_at hl 0 rfl) ?_
      refine lv_icmp_le (tgt := 46) hx hb dX6_isAheadUnslighted_39 (by decide) (fun h12 => ?_) (fun h12 => ?_)
      · have hf := zif_t hf h12
        refine lv_iconst (v := 0) hx hb dX6_isAheadUnslighted_46 (by decide) ?_
        exact z_zret hx hb hr hlocks hC (Or.inl rfl) hf dX6_isAheadUnslighted_47
      · have hf := zif_f hf h12
        refine lv_iconst (v := 1) hx hb dX6_isAheadUnslighted_42 (by decide) ?_
        refine lv_goto (tgt := 47) hx hb dX6_isAheadUnslighted_43 (by decide) ?_
        exact z_zret hx hb hr hlocks hC (Or.inr rfl) hf dX6_isAheadUnslighted_47
  · have hf := zif_f hf h17
    refine lv_aload_n hx hb dX6_isAheadUnslighted_11 rfl (lv_at hl 1 rfl) ?_
    obtain ⟨x15, hc14, hf⟩ := zb_inv hf
    refine z_ci (z_rV (As := []) (rest := []) ⟨hx, hb, hml, hown, hts⟩ (c_X4_isInDebt (l := l) (D := D) (cy := cy) (base := base) (st := st) (K := K) (L := L) (c := c) (r := r) (o := o) (z := z) t2 hk_t2 hc14) (cwV 0 hts gX6_isAheadUnslighted_X4_isInDebt rfl rfl rfl (by decide +kernel) ⟨Nat.le_of_ble_eq_true rfl, Nat.le_of_ble_eq_true rfl⟩) hG hC (zC.recv (ci := 4) (fs := _) hK hC (by rw [hk_t2]; decide) (by rw [hk_t2]; exact zc_4 cy _ _) rfl) rfl hl.1 rfl (lv_room (Nat.le_of_ble_eq_true rfl)) dX6_isAheadUnslighted_12 ⟨Nat.le_of_ble_eq_true rfl, Nat.le_of_ble_eq_true rfl⟩) hC (fun H locs hC => ?_)
    obtain ⟨hz16, hf⟩ := zz_inv hf
    exact z_zret hx hb hr hlocks hC hz16 hf dX6_isAheadUnslighted_15
def f_X6_firstHeir_62 (K : Nat → Nat) (z : Nat) (c : zS) (th : Nat) (p1 : Int32) (rec4 : (Option Nat → Int32 → Option (Option Nat))) (v2 : Option Nat) (v3 : Int32) (v4 : Nat) (s0 : Int32) : Option (Option Nat) :=
  (if s0 = 0 then zlet (v3 + 1) fun x3 => rec4 v2 x3 else zo K v2 4 (zlet (v3 + 1) fun x5 => rec4 (some v4) x5) fun a4 => zb (f_X6_isAheadUnslighted K z c v4 a4) fun x7 => (if x7 = 0 then zlet (v3 + 1) fun x8 => rec4 (some a4) x8 else zlet (v3 + 1) fun x9 => rec4 (some v4) x9))
def f_X6_firstHeir_61 (K : Nat → Nat) (z : Nat) (c : zS) (th : Nat) (p1 : Int32) (rec4 : (Option Nat → Int32 → Option (Option Nat))) (v2 : Option Nat) (v3 : Int32) (v4 : Nat) : Option (Option Nat) :=
  f_X6_firstHeir_62 K z c th p1 rec4 v2 v3 v4 0
def f_X6_firstHeir_4 (K : Nat → Nat) (z : Nat) (c : zS) (th : Nat) (p1 : Int32) : Nat → Option Nat → Int32 → Option (Option Nat)
  | 0, _, _ => none
  | n + 1, v2, v3 =>
    (if (zi c 126 th 0) ≤ v3 then some v2 else zn K (zr c 122 th 0) 13 fun a1 => zx v3 200 <| zn K (zr c 145 a1 (Int32.toNatClampNeg v3)) 4 fun a2 => (if (zi c 86 a2 0) = 1 then (if (zi c 89 a2 0) = 0 then f_X6_firstHeir_61 K z c th p1 (f_X6_firstHeir_4 K z c th p1 n) v2 v3 a2 else zn K (zr c 83 a2 0) 1 fun a12 => (if (zi c 20 a12 0) = 0 then (if p1 < (zi c 82 a2 0) then f_X6_firstHeir_61 K z c th p1 (f_X6_firstHeir_4 K z c th p1 n) v2 v3 a2 else f_X6_firstHeir_62 K z c th p1 (f_X6_firstHeir_4 K z c th p1 n) v2 v3 a2 1) else f_X6_firstHeir_61 K z c th p1 (f_X6_firstHeir_4 K z c th p1 n) v2 v3 a2)) else f_X6_firstHeir_61 K z c th p1 (f_X6_firstHeir_4 K z c th p1 n) v2 v3 a2))
def f_X6_firstHeir (K : Nat → Nat) (z : Nat) (c : zS) (th : Nat) (p1 : Int32) : Option (Option Nat) :=
  f_X6_firstHeir_4 K z c th p1 z none 0
set_option maxRecDepth 100000 in
set_option maxHeartbeats 4000000 in
theorem c_X6_firstHeir {l : Launch} {D : va_G} {cy : Nat → ClassId} {base : Nat} {st : Nat → Nat} {K : Nat → Nat} {L : List Nat} {c r : zS} {o : Int64} {z : Nat} (th : Nat) (p1 : Int32) {rv : Option Nat}  (hk_th : K th = 6) (hf : f_X6_firstHeir K z c th p1 = some rv) : Met l yX6_firstHeir wsX6_firstHeir ({ frames := 2, cells := 0, slots := 0, locals := 43 }) (va_Pc [.ref th, .int p1] (zGW zts0 zns0 D cy base st K L (c, r, o))) (va_Qq (fun (rr : Option Nat) (_ : Unit) => rr = rv) (fun _ => zB D cy base K L (c, r, o)) (zA base)) 0 0 (zA base) := by
  refine Met.ofW (cc := cX6_firstHeir) (maxL := 6) (ret := (some (.object "MarketSquare$Trader"))) (by decide) rfl ?_
  intro p e s m args below meth cd s₁ B hml hv
  obtain ⟨rfl, hG⟩ := hv
  have hx := B.exec
  have hb := B.bytes
  have hr := B.returns
  have hts := atoms_spec (ws := wsX6_firstHeir) B.pre
  have hown : s.vm.findClass RX6 = some m.cls := findClass_of_methodNamed B.named
  have hlocks := B.notSynchronized
  have hC := hG.enter
  have hK := hG.2.2.2.1
  have hi1 : ∀ w ∈ wsX10, w ∈ wsX6_firstHeir := by decide +kernel
  have hi4 : ∀ w ∈ wsX40, w ∈ wsX6_firstHeir := by decide +kernel
  have hi6 : ∀ w ∈ wsX60, w ∈ wsX6_firstHeir := by decide +kernel
  have w0 := hts (.fieldLink RX6 100 "MarketSquare" "traderCount" "I") (by decide +kernel)
  have w1 := hts (.fieldLink RX6 23 "MarketSquare" "traders" "[LMarketSquare$Trader;") (by decide +kernel)
  have w2 := hts (.fieldLink RX6 115 "MarketSquare$Trader" "kind" "I") (by decide +kernel)
  have w3 := hts (.fieldLink RX6 150 "MarketSquare$Trader" "wants" "Z") (by decide +kernel)
  have w4 := hts (.fieldLink RX6 120 "MarketSquare$Trader" "pitch" "LMarketSquare$Spot;") (by decide +kernel)
  have w5 := hts (.fieldLink RX6 227 "MarketSquare$Spot" "isSet" "Z") (by decide +kernel)
  have w6 := hts (.fieldLink RX6 260 "MarketSquare$Trader" "front" "I") (by decide +kernel)
  have hl := lv_entry ([.ref th, .int p1]) (n := 6) (Nat.le_of_ble_eq_true rfl)
  rw [lg_entry_eq]
  generalize (lg_sl ([.ref th, .int p1]) ++ List.replicate (6 - (lg_sl ([.ref th, .int p1])).length) Slot.unset).toArray = ls at hl ⊢
  have hl : lv_has ls 6 [(0, .ref th), (1, .int p1)] := hl
  have L4 : ∀ (n4 : Nat) (H : Heap) (locs : List Loc) (ls : Array Slot) (v2 : Option Nat) (v3 : Int32), zC D cy base K L (c, r, o) s.heap H locs → lv_has ls 6 [(0, .ref th), (1, .int p1), (2, va_rf v2), (3, .int v3)] → f_X6_firstHeir_4 K z c th p1 n4 v2 v3 = some rv → W p l e (headSpec wsX6_firstHeir ({ frames := 2, cells := 0, slots := 0, locals := 43 })).room s m ([.ref th, .int p1] : List Value).toArray below meth cd H locs 0 0 (MQ below (va_Qq (fun (rr : Option Nat) (_ : Unit) => rr = rv) (fun _ => zB D cy base K L (c, r, o)) (zA base)) ([.ref th, .int p1] : List Value).toArray s 0 0 (zA base)) (F0 m 4 ls []) := by
    intro n4
    induction n4 with
    | zero => intro H locs ls v2 v3 hC hl hf; rw [f_X6_firstHeir_4] at hf; cases hf
    | succ n4 ih4 =>
      intro H locs ls v2 v3 hC hl hf
      rw [f_X6_firstHeir_4] at hf
      have J62 : ∀ (H : Heap) (locs : List Loc) (ls : Array Slot) (v2 : Option Nat) (v3 : Int32) (v4 : Nat) (s0 : Int32), K v4 = 4 → zC D cy base K L (c, r, o) s.heap H locs → lv_has ls 6 [(0, .ref th), (1, .int p1), (2, va_rf v2), (3, .int v3), (4, .ref v4)] → f_X6_firstHeir_62 K z c th p1 (f_X6_firstHeir_4 K z c th p1 n4) v2 v3 v4 s0 = some rv → W p l e (headSpec wsX6_firstHeir ({ frames := 2, cells := 0, slots := 0, locals := 43 })).room s m ([.ref th, .int p1] : List Value).toArray below meth cd H locs 0 0 (MQ below (va_Qq (fun (rr : Option Nat) (_ : Unit) => rr = rv) (fun _ => zB D cy base K L (c, r, o)) (zA base)) ([.ref th, .int p1] : List Value).toArray s 0 0 (zA base)) (F0 m 62 ls [.int s0]) := by
        intro H locs ls v2 v3 v4 s0 hk_v4 hC hl hf
        unfold f_X6_firstHeir_62 at hf
        refine lv_istore (lv' := [(5, .int s0), (0, .ref th), (1, .int p1), (2, va_rf v2), (3, .int v3), (4, .ref v4)]) hx hb dX6_firstHeir_62 hl (by decide) rfl (fun ls hl => ?_)
        refine lv_iload hx hb dX6_firstHeir_64 (lv_at hl 0 rfl) ?_
        refine lv_if_eq (tgt := 85) hx hb dX6_firstHeir_66 (by decide) (fun h11 => ?_) (fun h11 => ?_)
        · have hf := zif_t hf h11
          obtain ⟨x3, ex3, hf⟩ := zlet_inv hf
          refine lv_iinc (v := x3) (lv' := [(3, .int x3), (5, .int s0), (0, .ref th), (1, .int p1), (2, va_rf v2), (4, .ref v4)]) hx hb dX6_firstHeir_85 hl (k := 4) rfl (by rw [ex3]; rfl) (by decide) (by cases v2 <;> rfl) (fun ls hl => ?_)
          refine lv_goto (tgt := 4) hx hb dX6_firstHeir_88 (by decide) ?_
          exact ih4 _ _ _ v2 x3 hC (lv_sub hl [2, 3, 4, 0] rfl) hf
        · have hf := zif_f hf h11
          refine z_aload_n hx hb dX6_firstHeir_69 rfl (lv_at hl 3 rfl) ?_
          rcases zo_inv hf with ⟨e0, hf0⟩ | ⟨a4, e0, hk_a4, hf0⟩
          · subst e0; have hf := hf0
            have hl : lv_has ls 6 [(5, .int s0), (0, .ref th), (1, .int p1), (2, .null), (3, .int v3), (4, .ref v4)] := hl
            refine lv_ifnullN (tgt := 82) hx hb dX6_firstHeir_70 (by decide) ?_
            refine lv_aload hx hb dX6_firstHeir_82 (lv_at hl 5 rfl) ?_
            refine lv_astore_n (lv' := [(2, .ref v4), (5, .int s0), (0, .ref th), (1, .int p1), (3, .int v3), (4, .ref v4)]) hx hb dX6_firstHeir_84 rfl hl (by decide) rfl (fun ls hl => ?_)
            obtain ⟨x5, ex5, hf⟩ := zlet_inv hf
            refine lv_iinc (v := x5) (lv' := [(3, .int x5), (2, .ref v4), (5, .int s0), (0, .ref th), (1, .int p1), (4, .ref v4)]) hx hb dX6_firstHeir_85 hl (k := 4) rfl (by rw [ex5]; rfl) (by decide) rfl (fun ls hl => ?_)
            refine lv_goto (tgt := 4) hx hb dX6_firstHeir_88 (by decide) ?_
            exact ih4 _ _ _ (some v4) x5 hC (lv_sub hl [3, 4, 1, 0] rfl) hf
          · subst e0; have hf := hf0
            have hl : lv_has ls 6 [(5, .int s0), (0, .ref th), (1, .int p1), (2, .ref a4), (3, .int v3), (4, .ref v4)] := hl
            refine lv_ifnull hx hb dX6_firstHeir_70 ?_
            refine lv_aload hx hb dX6_firstHeir_73 (lv_at hl 5 rfl) ?_
            refine lv_aload_n hx hb dX6_firstHeir_75 rfl (lv_at hl 3 rfl) ?_
            obtain ⟨x7, hc6, hf⟩ := zb_inv hf
            refine z_ci (z_rS (b := 0) (As := [.ref v4, .ref a4]) (rest := []) ⟨hx, hb, hml, hown, hts⟩ (c_X6_isAheadUnslighted (l := l) (D := D) (cy := cy) (base := base) (st := st) (K := K) (L := L) (c := c) (r := r) (o := o) (z := z) v4 a4 hk_v4 hk_a4 hc6) (va_cwS 2 hts gX6_firstHeir_X6_isAheadUnslighted rfl rfl rfl (by decide +kernel) ⟨Nat.le_of_ble_eq_true rfl, Nat.le_of_ble_eq_true rfl⟩) hG hC rfl hl.1 rfl (lv_room (Nat.le_of_ble_eq_true rfl)) dX6_firstHeir_76 ⟨Nat.le_of_ble_eq_true rfl, Nat.le_of_ble_eq_true rfl⟩) hC (fun H locs hC => ?_)
            refine lv_if_eq (tgt := 85) hx hb dX6_firstHeir_79 (by decide) (fun h10 => ?_) (fun h10 => ?_)
            · have hf := zif_t hf h10
              obtain ⟨x8, ex8, hf⟩ := zlet_inv hf
              refine lv_iinc (v := x8) (lv' := [(3, .int x8), (5, .int s0), (0, .ref th), (1, .int p1), (2, .ref a4), (4, .ref v4)]) hx hb dX6_firstHeir_85 hl (k := 4) rfl (by rw [ex8]; rfl) (by decide) rfl (fun ls hl => ?_)
              refine lv_goto (tgt := 4) hx hb dX6_firstHeir_88 (by decide) ?_
              exact ih4 _ _ _ (some a4) x8 hC (lv_sub hl [2, 3, 4, 0] rfl) hf
            · have hf := zif_f hf h10
              refine lv_aload hx hb dX6_firstHeir_82 (lv_at hl 5 rfl) ?_
              refine lv_astore_n (lv' := [(2, .ref v4), (5, .int s0), (0, .ref th), (1, .int p1), (3, .int v3), (4, .ref v4)]) hx hb dX6_firstHeir_84 rfl hl (by decide) rfl (fun ls hl => ?_)
              obtain ⟨x9, ex9, hf⟩ := zlet_inv hf
              refine lv_iinc (v := x9) (lv' := [(3, .int x9), (2, .ref v4), (5, .int s0), (0, .ref th), (1, .int p1), (4, .ref v4)]) hx hb dX6_firstHeir_85 hl (k := 4) rfl (by rw [ex9]; rfl) (by decide) rfl (fun ls hl => ?_)
              refine lv_goto (tgt := 4) hx hb dX6_firstHeir_88 (by decide) ?_
              exact ih4 _ _ _ (some v4) x9 hC (lv_sub hl [3, 4, 1, 0] rfl) hf
      have J61 : ∀ (H : Heap) (locs : List Loc) (ls : Array Slot) (v2 : Option Nat) (v3 : Int32) (v4 : Nat), K v4 = 4 → zC D cy base K L (c, r, o) s.heap H locs → lv_has ls 6 [(0, .ref th), (1, .int p1), (2, va_rf v2), (3, .int v3), (4, .ref v4)] → f_X6_firstHeir_61 K z c th p1 (f_X6_firstHeir_4 K z c th p1 n4) v2 v3 v4 = some rv → W p l e (headSpec wsX6_firstHeir ({ frames := 2, cells := 0, slots := 0, locals := 43 })).room s m ([.ref th, .int p1] : List Value).toArray below meth cd H locs 0 0 (MQ below (va_Qq (fun (rr : Option Nat) (_ : Unit) => rr = rv) (fun _ => zB D cy base K L (c, r, o)) (zA base)) ([.ref th, .int p1] : List Value).toArray s 0 0 (zA base)) (F0 m 61 ls []) := by
        intro H locs ls v2 v3 v4 hk_v4 hC hl hf
        unfold f_X6_firstHeir_61 at hf
        refine lv_iconst (v := 0) hx hb dX6_firstHeir_61 (by decide) ?_
        exact J62 _ _ _ v2 v3 v4 0 hk_v4 hC (lv_sub hl [0, 1, 2, 3, 4] rfl) hf
      refine lv_iload_n hx hb dX6_firstHeir_4 rfl (lv_at hl 3 rfl) ?_
      refine lv_aload_n hx hb dX6_firstHeir_5 rfl (lv_at hl 0 rfl) ?_
      refine zg_6_6 hx hb hts hi6 hown hK hC hk_th w0 dX6_firstHeir_6 ?_
      refine lv_icmp_ge (tgt := 91) hx hb dX6_firstHeir_9 (by decide) (fun h17 => ?_) (fun h17 => ?_)
      · have hf := zif_t hf h17
        refine z_aload_n hx hb dX6_firstHeir_91 rfl (lv_at hl 2 rfl) ?_
        exact z_qret (x := v2) hx hb hr hlocks hC hf dX6_firstHeir_92
      · have hf := zif_f hf h17
        refine lv_aload_n hx hb dX6_firstHeir_12 rfl (lv_at hl 0 rfl) ?_
        refine zg_6_2 hx hb hts hi6 hown hK hC hk_th w1 dX6_firstHeir_13 ?_
        obtain ⟨a1, ea1, hk_a1, hf⟩ := zn_inv hf
        refine z_ref ea1 ?_
        refine lv_iload_n hx hb dX6_firstHeir_16 rfl (lv_at hl 3 rfl) ?_
        obtain ⟨hix, hf⟩ := zx_inv hf
        refine xg_13 hx hb hK hC hk_a1 hix dX6_firstHeir_17 ?_
        obtain ⟨a2, ea2, hk_a2, hf⟩ := zn_inv hf
        refine z_ref ea2 ?_
        refine lv_astore (lv' := [(4, .ref a2), (0, .ref th), (1, .int p1), (2, va_rf v2), (3, .int v3)]) hx hb dX6_firstHeir_18 hl (by decide) rfl (fun ls hl => ?_)
        refine lv_aload hx hb dX6_firstHeir_20 (lv_at hl 0 rfl) ?_
        refine zg_4_6 hx hb hts hi4 hown hK hC hk_a2 w2 dX6_firstHeir_22 ?_
        refine lv_iconst (v := 1) hx hb dX6_firstHeir_25 (by decide) ?_
        refine lv_icmp_ne (tgt := 61) hx hb dX6_firstHeir_26 (by decide) (fun h16 => ?_) (fun h16 => ?_)
        · have hf := zif_f hf h16
          exact J61 _ _ _ v2 v3 a2 hk_a2 hC (lv_sub hl [1, 2, 3, 4, 0] rfl) hf
        · have hf := zif_t hf h16
          refine lv_aload hx hb dX6_firstHeir_29 (lv_at hl 0 rfl) ?_
          refine zg_4_9 hx hb hts hi4 hown hK hC hk_a2 w3 dX6_firstHeir_31 ?_
          refine lv_if_eq (tgt := 61) hx hb dX6_firstHeir_34 (by decide) (fun h15 => ?_) (fun h15 => ?_)
          · have hf := zif_t hf h15
            exact J61 _ _ _ v2 v3 a2 hk_a2 hC (lv_sub hl [1, 2, 3, 4, 0] rfl) hf
          · have hf := zif_f hf h15
            refine lv_aload hx hb dX6_firstHeir_37 (lv_at hl 0 rfl) ?_
            refine zg_4_3 hx hb hts hi4 hown hK hC hk_a2 w4 dX6_firstHeir_39 ?_
            obtain ⟨a12, ea12, hk_a12, hf⟩ := zn_inv hf
            refine z_ref ea12 ?_
            refine zg_1_0 hx hb hts hi1 hown hK hC hk_a12 w5 dX6_firstHeir_42 ?_
            refine lv_if_ne (tgt := 61) hx hb dX6_firstHeir_45 (by decide) (fun h14 => ?_) (fun h14 => ?_)
            · have hf := zif_f hf h14
              exact J61 _ _ _ v2 v3 a2 hk_a2 hC (lv_sub hl [1, 2, 3, 4, 0] rfl) hf
            · have hf := zif_t hf h14
              refine lv_aload hx hb dX6_firstHeir_48 (lv_at hl 0 rfl) ?_
              refine zg_4_2 hx hb hts hi4 hown hK hC hk_a2 w6 dX6_firstHeir_50 ?_
              refine lv_iload_n hx hb dX6_firstHeir_53 rfl (lv_at hl 2 rfl) ?_
              refine lv_icmp_gt (tgt := 61) hx hb dX6_firstHeir_54 (by decide) (fun h13 => ?_) (fun h13 => ?_)
              · have hf := zif_t hf h13
                exact J61 _ _ _ v2 v3 a2 hk_a2 hC (lv_sub hl [1, 2, 3, 4, 0] rfl) hf
              · have hf := zif_f hf h13
                refine lv_iconst (v := 1) hx hb dX6_firstHeir_57 (by decide) ?_
                refine lv_goto (tgt := 62) hx hb dX6_firstHeir_58 (by decide) ?_
                exact J62 _ _ _ v2 v3 a2 1 hk_a2 hC (lv_sub hl [1, 2, 3, 4, 0] rfl) hf
  unfold f_X6_firstHeir at hf
  refine lv_null hx hb dX6_firstHeir_0 ?_
  refine lv_astore_nN (lv' := [(2, .null), (0, .ref th), (1, .int p1)]) hx hb dX6_firstHeir_1 rfl hl (by decide) rfl (fun ls hl => ?_)
  refine lv_iconst (v := 0) hx hb dX6_firstHeir_2 (by decide) ?_
  refine lv_istore_n (lv' := [(3, .int 0), (2, .null), (0, .ref th), (1, .int p1)]) hx hb dX6_firstHeir_3 rfl hl (by decide) rfl (fun ls hl => ?_)
  exact L4 z _ _ _ none 0 hC (lv_sub hl [2, 3, 1, 0] rfl) hf
def f_X6_rankLast_57 (K : Nat → Nat) (z : Nat) (th : Nat) (t1 : Nat) (c9 : zS) : Option zS :=
  zlet (zui c9 87 t1 0 (zi c9 127 th 0)) fun c1 => zlet (zui c1 127 th 0 ((zi c1 127 th 0) + 1)) fun c2 => some c2
def f_X6_rankLast_4 (K : Nat → Nat) (z : Nat) (th : Nat) (t1 : Nat) : Nat → zS → Int32 → Int32 → Option zS
  | 0, _, _, _ => none
  | n + 1, c9, v2, v3 =>
    (if (zi c9 126 th 0) ≤ v3 then (if 200 ≤ v2 then f_X6_rankLast_57 K z th t1 c9 else zn K (zr c9 123 th 0) 14 fun a3 => zx v2 200 <| zlet (zur c9 146 a3 (Int32.toNatClampNeg v2) (some t1)) fun c4 => f_X6_rankLast_57 K z th t1 c4) else zn K (zr c9 123 th 0) 14 fun a6 => zx v3 200 <| zn K (zr c9 146 a6 (Int32.toNatClampNeg v3)) 4 fun a7 => (if a7 = t1 then zlet (v3 + 1) fun x8 => f_X6_rankLast_4 K z th t1 n c9 v2 x8 else zx v2 200 <| zlet (zur c9 146 a6 (Int32.toNatClampNeg v2) (some a7)) fun c9 => zlet (v2 + 1) fun x10 => zlet (v3 + 1) fun x11 => f_X6_rankLast_4 K z th t1 n c9 x10 x11))
def f_X6_rankLast (K : Nat → Nat) (z : Nat) (c : zS) (th : Nat) (t1 : Nat) : Option zS :=
  f_X6_rankLast_4 K z th t1 z c 0 0
set_option maxRecDepth 100000 in
set_option maxHeartbeats 4000000 in
theorem c_X6_rankLast {l : Launch} {D : va_G} {cy : Nat → ClassId} {base : Nat} {st : Nat → Nat} {K : Nat → Nat} {L : List Nat} {c r : zS} {o : Int64} {z : Nat} (th : Nat) (t1 : Nat) {cf : zS}  (hk_th : K th = 6) (hk_t1 : K t1 = 4) (hf : f_X6_rankLast K z c th t1 = some cf) : Met l yX6_rankLast wsX6_rankLast ({ frames := 0, cells := 0, slots := 0, locals := 0 }) (va_Pc [.ref th, .ref t1] (zGW zts0 zns0 D cy base st K L (c, r, o))) (va_Qv (fun (_ : Unit) => True) (fun _ => zB D cy base K L (cf, r, o)) (zA base)) 0 0 (zA base) := by
  refine Met.ofW (cc := cX6_rankLast) (maxL := 5) (ret := none) (by decide) rfl ?_
  intro p e s m args below meth cd s₁ B hml hv
  obtain ⟨rfl, hG⟩ := hv
  have hx := B.exec
  have hb := B.bytes
  have hr := B.returns
  have hts := atoms_spec (ws := wsX6_rankLast) B.pre
  have hown : s.vm.findClass RX6 = some m.cls := findClass_of_methodNamed B.named
  have hlocks := B.notSynchronized
  have hC := hG.enter
  have hK := hG.2.2.2.1
  have hi4 : ∀ w ∈ wsX40, w ∈ wsX6_rankLast := by decide +kernel
  have hi6 : ∀ w ∈ wsX60, w ∈ wsX6_rankLast := by decide +kernel
  have w0 := hts (.fieldLink RX6 100 "MarketSquare" "traderCount" "I") (by decide +kernel)
  have w1 := hts (.fieldLink RX6 105 "MarketSquare" "nextRank" "I") (by decide +kernel)
  have w2 := hts (.fieldLink RX6 263 "MarketSquare$Trader" "rank" "I") (by decide +kernel)
  have w3 := hts (.fieldLink RX6 27 "MarketSquare" "ranked" "[LMarketSquare$Trader;") (by decide +kernel)
  have hl := lv_entry ([.ref th, .ref t1]) (n := 5) (Nat.le_of_ble_eq_true rfl)
  rw [lg_entry_eq]
  generalize (lg_sl ([.ref th, .ref t1]) ++ List.replicate (5 - (lg_sl ([.ref th, .ref t1])).length) Slot.unset).toArray = ls at hl ⊢
  have hl : lv_has ls 5 [(0, .ref th), (1, .ref t1)] := hl
  have J57 : ∀ (c9 : zS) (H : Heap) (locs : List Loc) (ls : Array Slot), zC D cy base K L (c9, r, o) s.heap H locs → lv_has ls 5 [(0, .ref th), (1, .ref t1)] → f_X6_rankLast_57 K z th t1 c9 = some cf → W p l e (headSpec wsX6_rankLast ({ frames := 0, cells := 0, slots := 0, locals := 0 })).room s m ([.ref th, .ref t1] : List Value).toArray below meth cd H locs 0 0 (MQ below (va_Qv (fun (_ : Unit) => True) (fun _ => zB D cy base K L (cf, r, o)) (zA base)) ([.ref th, .ref t1] : List Value).toArray s 0 0 (zA base)) (F0 m 57 ls []) := by
    intro c9 H locs ls hC hl hf
    unfold f_X6_rankLast_57 at hf
    refine lv_aload_n hx hb dX6_rankLast_57 rfl (lv_at hl 1 rfl) ?_
    refine lv_aload_n hx hb dX6_rankLast_58 rfl (lv_at hl 0 rfl) ?_
    refine zg_6_7 hx hb hts hi6 hown hK hC hk_th w1 dX6_rankLast_59 ?_
    obtain ⟨c1, ec1, hf⟩ := zlet_inv hf
    refine zp_4_7 hx hb hts hi4 hown hK hC hk_t1 w2 ec1 dX6_rankLast_62 (fun H locs hC => ?_)
    refine lv_aload_n hx hb dX6_rankLast_65 rfl (lv_at hl 0 rfl) ?_
    refine lv_dup hx hb dX6_rankLast_66 rfl ?_
    refine zg_6_7 hx hb hts hi6 hown hK hC hk_th w1 dX6_rankLast_67 ?_
    refine lv_iconst (v := 1) hx hb dX6_rankLast_70 (by decide) ?_
    refine lv_iadd hx hb dX6_rankLast_71 ?_
    obtain ⟨c2, ec2, hf⟩ := zlet_inv hf
    refine zp_6_7 hx hb hts hi6 hown hK hC hk_th w1 ec2 dX6_rankLast_72 (fun H locs hC => ?_)
    exact z_vretW hx hb hr hlocks hC hf dX6_rankLast_75
  have L4 : ∀ (n4 : Nat) (c9 : zS) (H : Heap) (locs : List Loc) (ls : Array Slot) (v2 : Int32) (v3 : Int32), zC D cy base K L (c9, r, o) s.heap H locs → lv_has ls 5 [(0, .ref th), (1, .ref t1), (2, .int v2), (3, .int v3)] → f_X6_rankLast_4 K z th t1 n4 c9 v2 v3 = some cf → W p l e (headSpec wsX6_rankLast ({ frames := 0, cells := 0, slots := 0, locals := 0 })).room s m ([.ref th, .ref t1] : List Value).toArray below meth cd H locs 0 0 (MQ below (va_Qv (fun (_ : Unit) => True) (fun _ => zB D cy base K L (cf, r, o)) (zA base)) ([.ref th, .ref t1] : List Value).toArray s 0 0 (zA base)) (F0 m 4 ls []) := by
    intro n4
    induction n4 with
    | zero => intro c9 H locs ls v2 v3 hC hl hf; rw [f_X6_rankLast_4] at hf; cases hf
    | succ n4 ih4 =>
      intro c9 H locs ls v2 v3 hC hl hf
      rw [f_X6_rankLast_4] at hf
      refine lv_iload_n hx hb dX6_rankLast_4 rfl (lv_at hl 3 rfl) ?_
      refine lv_aload_n hx hb dX6_rankLast_5 rfl (lv_at hl 0 rfl) ?_
      refine zg_6_6 hx hb hts hi6 hown hK hC hk_th w0 dX6_rankLast_6 ?_
      refine lv_icmp_ge (tgt := 43) hx hb dX6_rankLast_9 (by decide) (fun h13 => ?_) (fun h13 => ?_)
      · have hf := zif_t hf h13
        refine lv_iload_n hx hb dX6_rankLast_43 rfl (lv_at hl 2 rfl) ?_
        refine lv_sipush (v := 200) hx hb dX6_rankLast_44 (by decide) ?_
        refine lv_icmp_ge (tgt := 57) hx hb dX6_rankLast_47 (by decide) (fun h5 => ?_) (fun h5 => ?_)
        · have hf := zif_t hf h5
          exact J57 _ _ _ _ hC (lv_sub hl [0, 1] rfl) hf
        · have hf := zif_f hf h5
          refine lv_aload_n hx hb dX6_rankLast_50 rfl (lv_at hl 0 rfl) ?_
          refine zg_6_3 hx hb hts hi6 hown hK hC hk_th w3 dX6_rankLast_51 ?_
          obtain ⟨a3, ea3, hk_a3, hf⟩ := zn_inv hf
          refine z_ref ea3 ?_
          refine lv_iload_n hx hb dX6_rankLast_54 rfl (lv_at hl 2 rfl) ?_
          refine lv_aload_n hx hb dX6_rankLast_55 rfl (lv_at hl 1 rfl) ?_
          obtain ⟨hix, hf⟩ := zx_inv hf
          obtain ⟨c4, ec4, hf⟩ := zlet_inv hf
          refine xp_14 hx hb hK hC hk_a3 hix hk_t1 ec4 dX6_rankLast_56 (fun H locs hC => ?_)
          exact J57 _ _ _ _ hC (lv_sub hl [0, 1] rfl) hf
      · have hf := zif_f hf h13
        refine lv_aload_n hx hb dX6_rankLast_12 rfl (lv_at hl 0 rfl) ?_
        refine zg_6_3 hx hb hts hi6 hown hK hC hk_th w3 dX6_rankLast_13 ?_
        obtain ⟨a6, ea6, hk_a6, hf⟩ := zn_inv hf
        refine z_ref ea6 ?_
        refine lv_iload_n hx hb dX6_rankLast_16 rfl (lv_at hl 3 rfl) ?_
        obtain ⟨hix, hf⟩ := zx_inv hf
        refine xg_14 hx hb hK hC hk_a6 hix dX6_rankLast_17 ?_
        obtain ⟨a7, ea7, hk_a7, hf⟩ := zn_inv hf
        refine z_ref ea7 ?_
        refine lv_astore (lv' := [(4, .ref a7), (0, .ref th), (1, .ref t1), (2, .int v2), (3, .int v3)]) hx hb dX6_rankLast_18 hl (by decide) rfl (fun ls hl => ?_)
        refine lv_aload hx hb dX6_rankLast_20 (lv_at hl 0 rfl) ?_
        refine lv_aload_n hx hb dX6_rankLast_22 rfl (lv_at hl 2 rfl) ?_
        refine z_acmp_eq (tgt := 37) hx hb dX6_rankLast_23 (by decide) (fun h12 => ?_) (fun h12 => ?_)
        · have hf := zif_t hf h12
          obtain ⟨x8, ex8, hf⟩ := zlet_inv hf
          refine lv_iinc (v := x8) (lv' := [(3, .int x8), (4, .ref a7), (0, .ref th), (1, .ref t1), (2, .int v2)]) hx hb dX6_rankLast_37 hl (k := 4) rfl (by rw [ex8]; rfl) (by decide) rfl (fun ls hl => ?_)
          refine lv_goto (tgt := 4) hx hb dX6_rankLast_40 (by decide) ?_
          exact ih4 _ _ _ _ v2 x8 hC (lv_sub hl [2, 3, 4, 0] rfl) hf
        · have hf := zif_f hf h12
          refine lv_aload_n hx hb dX6_rankLast_26 rfl (lv_at hl 1 rfl) ?_
          refine zg_6_3 hx hb hts hi6 hown hK hC hk_th w3 dX6_rankLast_27 ?_
          refine z_ref ea6 ?_
          refine lv_iload_n hx hb dX6_rankLast_30 rfl (lv_at hl 3 rfl) ?_
          refine lv_aload hx hb dX6_rankLast_31 (lv_at hl 0 rfl) ?_
          obtain ⟨hix, hf⟩ := zx_inv hf
          obtain ⟨c9, ec9, hf⟩ := zlet_inv hf
          refine xp_14 hx hb hK hC hk_a6 hix hk_a7 ec9 dX6_rankLast_33 (fun H locs hC => ?_)
          obtain ⟨x10, ex10, hf⟩ := zlet_inv hf
          refine lv_iinc (v := x10) (lv' := [(2, .int x10), (4, .ref a7), (0, .ref th), (1, .ref t1), (3, .int v3)]) hx hb dX6_rankLast_34 hl (k := 3) rfl (by rw [ex10]; rfl) (by decide) rfl (fun ls hl => ?_)
          obtain ⟨x11, ex11, hf⟩ := zlet_inv hf
          refine lv_iinc (v := x11) (lv' := [(3, .int x11), (2, .int x10), (4, .ref a7), (0, .ref th), (1, .ref t1)]) hx hb dX6_rankLast_37 hl (k := 4) rfl (by rw [ex11]; rfl) (by decide) rfl (fun ls hl => ?_)
          refine lv_goto (tgt := 4) hx hb dX6_rankLast_40 (by decide) ?_
          exact ih4 _ _ _ _ x10 x11 hC (lv_sub hl [3, 4, 1, 0] rfl) hf
  unfold f_X6_rankLast at hf
  refine lv_iconst (v := 0) hx hb dX6_rankLast_0 (by decide) ?_
  refine lv_istore_n (lv' := [(2, .int 0), (0, .ref th), (1, .ref t1)]) hx hb dX6_rankLast_1 rfl hl (by decide) rfl (fun ls hl => ?_)
  refine lv_iconst (v := 0) hx hb dX6_rankLast_2 (by decide) ?_
  refine lv_istore_n (lv' := [(3, .int 0), (2, .int 0), (0, .ref th), (1, .ref t1)]) hx hb dX6_rankLast_3 rfl hl (by decide) rfl (fun ls hl => ?_)
  exact L4 z _ _ _ _ 0 0 hC (lv_sub hl [2, 3, 1, 0] rfl) hf
def f_X6_losePitch (K : Nat → Nat) (z : Nat) (c : zS) (th : Nat) (t1 : Nat) : Option zS :=
  zn K (zr c 83 t1 0) 1 fun a1 => zlet (zi c 21 a1 0) fun x2 => zlet (zi c 22 a1 0) fun x3 => zb (f_X1_remove K z c a1) fun c6 => zlet (zui c6 91 t1 0 0) fun c7 => zlet (zul c7 136 th 0 ((zl c7 136 th 0) + 1)) fun c8 => zb (f_X6_firstHeir K z c8 th (zi c8 82 t1 0)) fun o10 => zo K o10 4 (some c8) fun a11 => zlet (zui c8 86 a11 0 0) fun c12 => zn K (zr c12 83 a11 0) 1 fun a13 => zb (f_X1_put K z c12 a13 x2 x3) fun c16 => zb (f_X6_rankLast K z c16 th a11) fun c19 => zlet (zul c19 137 th 0 ((zl c19 137 th 0) + 1)) fun c20 => some c20
set_option maxRecDepth 100000 in
set_option maxHeartbeats 4000000 in
theorem c_X6_losePitch {l : Launch} {D : va_G} {cy : Nat → ClassId} {base : Nat} {st : Nat → Nat} {K : Nat → Nat} {L : List Nat} {c r : zS} {o : Int64} {z : Nat} (th : Nat) (t1 : Nat) {cf : zS}  (hk_th : K th = 6) (hk_t1 : K t1 = 4) (hf : f_X6_losePitch K z c th t1 = some cf) : Met l yX6_losePitch wsX6_losePitch ({ frames := 3, cells := 0, slots := 0, locals := 68 }) (va_Pc [.ref th, .ref t1] (zGW zts0 zns0 D cy base st K L (c, r, o))) (va_Qv (fun (_ : Unit) => True) (fun _ => zB D cy base K L (cf, r, o)) (zA base)) 0 0 (zA base) := by
  refine Met.ofW (cc := cX6_losePitch) (maxL := 5) (ret := none) (by decide) rfl ?_
  intro p e s m args below meth cd s₁ B hml hv
  obtain ⟨rfl, hG⟩ := hv
  have hx := B.exec
  have hb := B.bytes
  have hr := B.returns
  have hts := atoms_spec (ws := wsX6_losePitch) B.pre
  have hown : s.vm.findClass RX6 = some m.cls := findClass_of_methodNamed B.named
  have hlocks := B.notSynchronized
  have hC := hG.enter
  have hK := hG.2.2.2.1
  have hi1 : ∀ w ∈ wsX10, w ∈ wsX6_losePitch := by decide +kernel
  have hi4 : ∀ w ∈ wsX40, w ∈ wsX6_losePitch := by decide +kernel
  have hi6 : ∀ w ∈ wsX60, w ∈ wsX6_losePitch := by decide +kernel
  have w0 := hts (.fieldLink RX6 120 "MarketSquare$Trader" "pitch" "LMarketSquare$Spot;") (by decide +kernel)
  have w1 := hts (.fieldLink RX6 414 "MarketSquare$Spot" "row" "I") (by decide +kernel)
  have w2 := hts (.fieldLink RX6 417 "MarketSquare$Spot" "place" "I") (by decide +kernel)
  have w3 := hts (.fieldLink RX6 288 "MarketSquare$Trader" "awayDays" "I") (by decide +kernel)
  have w4 := hts (.fieldLink RX6 320 "MarketSquare" "lost" "J") (by decide +kernel)
  have w5 := hts (.fieldLink RX6 260 "MarketSquare$Trader" "front" "I") (by decide +kernel)
  have w6 := hts (.fieldLink RX6 115 "MarketSquare$Trader" "kind" "I") (by decide +kernel)
  have w7 := hts (.fieldLink RX6 323 "MarketSquare" "given" "J") (by decide +kernel)
  have hl := lv_entry ([.ref th, .ref t1]) (n := 5) (Nat.le_of_ble_eq_true rfl)
  rw [lg_entry_eq]
  generalize (lg_sl ([.ref th, .ref t1]) ++ List.replicate (5 - (lg_sl ([.ref th, .ref t1])).length) Slot.unset).toArray = ls at hl ⊢
  have hl : lv_has ls 5 [(0, .ref th), (1, .ref t1)] := hl
  unfold f_X6_losePitch at hf
  refine lv_aload_n hx hb dX6_losePitch_0 rfl (lv_at hl 1 rfl) ?_
  refine zg_4_3 hx hb hts hi4 hown hK hC hk_t1 w0 dX6_losePitch_1 ?_
  obtain ⟨a1, ea1, hk_a1, hf⟩ := zn_inv hf
  refine z_ref ea1 ?_
  refine zg_1_1 hx hb hts hi1 hown hK hC hk_a1 w1 dX6_losePitch_4 ?_
  obtain ⟨x2, ex2, hf⟩ := zlet_inv hf
  refine z_name ex2 ?_
  refine lv_istore_n (lv' := [(2, .int x2), (0, .ref th), (1, .ref t1)]) hx hb dX6_losePitch_7 rfl hl (by decide) rfl (fun ls hl => ?_)
  refine lv_aload_n hx hb dX6_losePitch_8 rfl (lv_at hl 2 rfl) ?_
  refine zg_4_3 hx hb hts hi4 hown hK hC hk_t1 w0 dX6_losePitch_9 ?_
  refine z_ref ea1 ?_
  refine zg_1_2 hx hb hts hi1 hown hK hC hk_a1 w2 dX6_losePitch_12 ?_
  obtain ⟨x3, ex3, hf⟩ := zlet_inv hf
  refine z_name ex3 ?_
  refine lv_istore_n (lv' := [(3, .int x3), (2, .int x2), (0, .ref th), (1, .ref t1)]) hx hb dX6_losePitch_15 rfl hl (by decide) rfl (fun ls hl => ?_)
  refine lv_aload_n hx hb dX6_losePitch_16 rfl (lv_at hl 3 rfl) ?_
  refine zg_4_3 hx hb hts hi4 hown hK hC hk_t1 w0 dX6_losePitch_17 ?_
  refine z_ref ea1 ?_
  obtain ⟨c6, hc4, hf⟩ := zb_inv hf
  refine z_cv (z_rV (As := []) (rest := []) ⟨hx, hb, hml, hown, hts⟩ (c_X1_remove (l := l) (D := D) (cy := cy) (base := base) (st := st) (K := K) (L := L) (c := c) (r := r) (o := o) (z := z) a1 hk_a1 hc4) (cwV 0 hts gX6_losePitch_X1_remove rfl rfl rfl (by decide +kernel) ⟨Nat.le_of_ble_eq_true rfl, Nat.le_of_ble_eq_true rfl⟩) hG hC (zC.recv (ci := 1) (fs := _) hK hC (by rw [hk_a1]; decide) (by rw [hk_a1]; exact zc_1 cy _ _) rfl) rfl hl.1 rfl (lv_room (Nat.le_of_ble_eq_true rfl)) dX6_losePitch_20 ⟨Nat.le_of_ble_eq_true rfl, Nat.le_of_ble_eq_true rfl⟩) hC (fun H locs hC => ?_)
  refine lv_aload_n hx hb dX6_losePitch_23 rfl (lv_at hl 3 rfl) ?_
  refine lv_iconst (v := 0) hx hb dX6_losePitch_24 (by decide) ?_
  obtain ⟨c7, ec7, hf⟩ := zlet_inv hf
  refine zp_4_11 hx hb hts hi4 hown hK hC hk_t1 w3 ec7 dX6_losePitch_25 (fun H locs hC => ?_)
  refine lv_aload_n hx hb dX6_losePitch_28 rfl (lv_at hl 2 rfl) ?_
  refine lv_dup hx hb dX6_losePitch_29 rfl ?_
  refine zg_6_16 hx hb hts hi6 hown hK hC hk_th w4 dX6_losePitch_30 ?_
  refine lv_lconst (v := 1) hx hb dX6_losePitch_33 (by decide) ?_
  refine lv_ladd hx hb dX6_losePitch_34 ?_
  obtain ⟨c8, ec8, hf⟩ := zlet_inv hf
  refine zp_6_16 hx hb hts hi6 hown hK hC hk_th w4 ec8 dX6_losePitch_35 (fun H locs hC => ?_)
  refine lv_aload_n hx hb dX6_losePitch_38 rfl (lv_at hl 2 rfl) ?_
  refine lv_aload_n hx hb dX6_losePitch_39 rfl (lv_at hl 3 rfl) ?_
  refine zg_4_2 hx hb hts hi4 hown hK hC hk_t1 w5 dX6_losePitch_40 ?_
  obtain ⟨o10, hc9, hf⟩ := zb_inv hf
  refine z_cq (z_rV (As := [.int (zi c8 82 t1 0)]) (rest := []) ⟨hx, hb, hml, hown, hts⟩ (c_X6_firstHeir (l := l) (D := D) (cy := cy) (base := base) (st := st) (K := K) (L := L) (c := c8) (r := r) (o := o) (z := z) th (zi c8 82 t1 0) hk_th hc9) (cwV 1 hts gX6_losePitch_X6_firstHeir rfl rfl rfl (by decide +kernel) ⟨Nat.le_of_ble_eq_true rfl, Nat.le_of_ble_eq_true rfl⟩) hG hC (zC.recv (ci := 6) (fs := _) hK hC (by rw [hk_th]; decide) (by rw [hk_th]; exact zc_6 cy _ _) rfl) rfl hl.1 rfl (lv_room (Nat.le_of_ble_eq_true rfl)) dX6_losePitch_43 ⟨Nat.le_of_ble_eq_true rfl, Nat.le_of_ble_eq_true rfl⟩) hC (fun H locs hC => ?_)
  refine z_astore (lv' := [(4, va_rf o10), (3, .int x3), (2, .int x2), (0, .ref th), (1, .ref t1)]) hx hb dX6_losePitch_46 hl (by decide) rfl (fun ls hl => ?_)
  refine z_aload hx hb dX6_losePitch_48 (lv_at hl 0 rfl) ?_
  rcases zo_inv hf with ⟨e0, hf0⟩ | ⟨a11, e0, hk_a11, hf0⟩
  · subst e0; have hf := hf0
    have hl : lv_has ls 5 [(4, .null), (3, .int x3), (2, .int x2), (0, .ref th), (1, .ref t1)] := hl
    refine lv_ifnullN (tgt := 85) hx hb dX6_losePitch_50 (by decide) ?_
    exact z_vretW hx hb hr hlocks hC hf dX6_losePitch_85
  · subst e0; have hf := hf0
    have hl : lv_has ls 5 [(4, .ref a11), (3, .int x3), (2, .int x2), (0, .ref th), (1, .ref t1)] := hl
    refine lv_ifnull hx hb dX6_losePitch_50 ?_
    refine lv_aload hx hb dX6_losePitch_53 (lv_at hl 0 rfl) ?_
    refine lv_iconst (v := 0) hx hb dX6_losePitch_55 (by decide) ?_
    obtain ⟨c12, ec12, hf⟩ := zlet_inv hf
    refine zp_4_6 hx hb hts hi4 hown hK hC hk_a11 w6 ec12 dX6_losePitch_56 (fun H locs hC => ?_)
    refine lv_aload hx hb dX6_losePitch_59 (lv_at hl 0 rfl) ?_
    refine zg_4_3 hx hb hts hi4 hown hK hC hk_a11 w0 dX6_losePitch_61 ?_
    obtain ⟨a13, ea13, hk_a13, hf⟩ := zn_inv hf
    refine z_ref ea13 ?_
    refine lv_iload_n hx hb dX6_losePitch_64 rfl (lv_at hl 2 rfl) ?_
    refine lv_iload_n hx hb dX6_losePitch_65 rfl (lv_at hl 1 rfl) ?_
    obtain ⟨c16, hc14, hf⟩ := zb_inv hf
    refine z_cv (z_rV (As := [.int x2, .int x3]) (rest := []) ⟨hx, hb, hml, hown, hts⟩ (c_X1_put (l := l) (D := D) (cy := cy) (base := base) (st := st) (K := K) (L := L) (c := c12) (r := r) (o := o) (z := z) a13 x2 x3 hk_a13 hc14) (cwV 2 hts gX6_losePitch_X1_put rfl rfl rfl (by decide +kernel) ⟨Nat.le_of_ble_eq_true rfl, Nat.le_of_ble_eq_true rfl⟩) hG hC (zC.recv (ci := 1) (fs := _) hK hC (by rw [hk_a13]; decide) (by rw [hk_a13]; exact zc_1 cy _ _) rfl) rfl hl.1 rfl (lv_room (Nat.le_of_ble_eq_true rfl)) dX6_losePitch_66 ⟨Nat.le_of_ble_eq_true rfl, Nat.le_of_ble_eq_true rfl⟩) hC (fun H locs hC => ?_)
    refine lv_aload_n hx hb dX6_losePitch_69 rfl (lv_at hl 3 rfl) ?_
    refine lv_aload hx hb dX6_losePitch_70 (lv_at hl 0 rfl) ?_
    obtain ⟨c19, hc17, hf⟩ := zb_inv hf
    refine z_cv (z_rV (As := [.ref a11]) (rest := []) ⟨hx, hb, hml, hown, hts⟩ (c_X6_rankLast (l := l) (D := D) (cy := cy) (base := base) (st := st) (K := K) (L := L) (c := c16) (r := r) (o := o) (z := z) th a11 hk_th hk_a11 hc17) (cwV 1 hts gX6_losePitch_X6_rankLast rfl rfl rfl (by decide +kernel) ⟨Nat.le_of_ble_eq_true rfl, Nat.le_of_ble_eq_true rfl⟩) hG hC (zC.recv (ci := 6) (fs := _) hK hC (by rw [hk_th]; decide) (by rw [hk_th]; exact zc_6 cy _ _) rfl) rfl hl.1 rfl (lv_room (Nat.le_of_ble_eq_true rfl)) dX6_losePitch_72 ⟨Nat.le_of_ble_eq_true rfl, Nat.le_of_ble_eq_true rfl⟩) hC (fun H locs hC => ?_)
    refine lv_aload_n hx hb dX6_losePitch_75 rfl (lv_at hl 3 rfl) ?_
    refine lv_dup hx hb dX6_losePitch_76 rfl ?_
    refine zg_6_17 hx hb hts hi6 hown hK hC hk_th w7 dX6_losePitch_77 ?_
    refine lv_lconst (v := 1) hx hb dX6_losePitch_80 (by decide) ?_
    refine lv_ladd hx hb dX6_losePitch_81 ?_
    obtain ⟨c20, ec20, hf⟩ := zlet_inv hf
    refine zp_6_17 hx hb hts hi6 hown hK hC hk_th w7 ec20 dX6_losePitch_82 (fun H locs hC => ?_)
    exact z_vretW hx hb hr hlocks hC hf dX6_losePitch_85
def f_X2_clear (K : Nat → Nat) (z : Nat) (c : zS) (th : Nat) : Option zS :=
  zlet (zui c 42 th 0 0) fun c1 => zlet (zui c1 43 th 0 0) fun c2 => zlet (zui c2 44 th 0 0) fun c3 => zlet (zui c3 45 th 0 0) fun c4 => zlet (zui c4 46 th 0 0) fun c5 => zlet (zui c5 47 th 0 0) fun c6 => some c6
set_option maxRecDepth 100000 in
set_option maxHeartbeats 4000000 in
theorem c_X2_clear {l : Launch} {D : va_G} {cy : Nat → ClassId} {base : Nat} {st : Nat → Nat} {K : Nat → Nat} {L : List Nat} {c r : zS} {o : Int64} {z : Nat} (th : Nat) {cf : zS}  (hk_th : K th = 2) (hf : f_X2_clear K z c th = some cf) : Met l yX2_clear wsX2_clear ({ frames := 0, cells := 0, slots := 0, locals := 0 }) (va_Pc [.ref th] (zGW zts0 zns0 D cy base st K L (c, r, o))) (va_Qv (fun (_ : Unit) => True) (fun _ => zB D cy base K L (cf, r, o)) (zA base)) 0 0 (zA base) := by
  refine Met.ofW (cc := cX2_clear) (maxL := 1) (ret := none) (by decide) rfl ?_
  intro p e s m args below meth cd s₁ B hml hv
  obtain ⟨rfl, hG⟩ := hv
  have hx := B.exec
  have hb := B.bytes
  have hr := B.returns
  have hts := atoms_spec (ws := wsX2_clear) B.pre
  have hown : s.vm.findClass RX2 = some m.cls := findClass_of_methodNamed B.named
  have hlocks := B.notSynchronized
  have hC := hG.enter
  have hK := hG.2.2.2.1
  have hi2 : ∀ w ∈ wsX20, w ∈ wsX2_clear := by decide +kernel
  have w0 := hts (.fieldLink RX2 16 "MarketSquare$Today" "there" "Z") (by decide +kernel)
  have w1 := hts (.fieldLink RX2 20 "MarketSquare$Today" "word" "Z") (by decide +kernel)
  have w2 := hts (.fieldLink RX2 23 "MarketSquare$Today" "slighted" "Z") (by decide +kernel)
  have w3 := hts (.fieldLink RX2 26 "MarketSquare$Today" "passed" "Z") (by decide +kernel)
  have w4 := hts (.fieldLink RX2 29 "MarketSquare$Today" "left" "Z") (by decide +kernel)
  have w5 := hts (.fieldLink RX2 32 "MarketSquare$Today" "away" "Z") (by decide +kernel)
  have hl := lv_entry ([.ref th]) (n := 1) (Nat.le_of_ble_eq_true rfl)
  rw [lg_entry_eq]
  generalize (lg_sl ([.ref th]) ++ List.replicate (1 - (lg_sl ([.ref th])).length) Slot.unset).toArray = ls at hl ⊢
  have hl : lv_has ls 1 [(0, .ref th)] := hl
  unfold f_X2_clear at hf
  refine lv_aload_n hx hb dX2_clear_0 rfl (lv_at hl 0 rfl) ?_
  refine lv_iconst (v := 0) hx hb dX2_clear_1 (by decide) ?_
  obtain ⟨c1, ec1, hf⟩ := zlet_inv hf
  refine zp_2_2 hx hb hts hi2 hown hK hC hk_th w0 (Or.inl rfl) ec1 dX2_clear_2 (fun H locs hC => ?_)
  refine lv_aload_n hx hb dX2_clear_5 rfl (lv_at hl 0 rfl) ?_
  refine lv_iconst (v := 0) hx hb dX2_clear_6 (by decide) ?_
  obtain ⟨c2, ec2, hf⟩ := zlet_inv hf
  refine zp_2_3 hx hb hts hi2 hown hK hC hk_th w1 (Or.inl rfl) ec2 dX2_clear_7 (fun H locs hC => ?_)
  refine lv_aload_n hx hb dX2_clear_10 rfl (lv_at hl 0 rfl) ?_
  refine lv_iconst (v := 0) hx hb dX2_clear_11 (by decide) ?_
  obtain ⟨c3, ec3, hf⟩ := zlet_inv hf
  refine zp_2_4 hx hb hts hi2 hown hK hC hk_th w2 (Or.inl rfl) ec3 dX2_clear_12 (fun H locs hC => ?_)
  refine lv_aload_n hx hb dX2_clear_15 rfl (lv_at hl 0 rfl) ?_
  refine lv_iconst (v := 0) hx hb dX2_clear_16 (by decide) ?_
  obtain ⟨c4, ec4, hf⟩ := zlet_inv hf
  refine zp_2_5 hx hb hts hi2 hown hK hC hk_th w3 (Or.inl rfl) ec4 dX2_clear_17 (fun H locs hC => ?_)
  refine lv_aload_n hx hb dX2_clear_20 rfl (lv_at hl 0 rfl) ?_
  refine lv_iconst (v := 0) hx hb dX2_clear_21 (by decide) ?_
  obtain ⟨c5, ec5, hf⟩ := zlet_inv hf
  refine zp_2_6 hx hb hts hi2 hown hK hC hk_th w4 (Or.inl rfl) ec5 dX2_clear_22 (fun H locs hC => ?_)
  refine lv_aload_n hx hb dX2_clear_25 rfl (lv_at hl 0 rfl) ?_
  refine lv_iconst (v := 0) hx hb dX2_clear_26 (by decide) ?_
  obtain ⟨c6, ec6, hf⟩ := zlet_inv hf
  refine zp_2_7 hx hb hts hi2 hown hK hC hk_th w5 (Or.inl rfl) ec6 dX2_clear_27 (fun H locs hC => ?_)
  exact z_vretW hx hb hr hlocks hC hf dX2_clear_30
def f_X4_isWaiting (K : Nat → Nat) (z : Nat) (c : zS) (th : Nat) : Option Int32 :=
  zn K (zr c 85 th 0) 2 fun a1 => (if (zi c 42 a1 0) = 0 then some 0 else zn K (zr c 40 a1 0) 1 fun a2 => (if (zi c 20 a2 0) = 0 then (if (zi c 46 a1 0) = 0 then some 1 else some 0) else some 0))
set_option maxRecDepth 100000 in
set_option maxHeartbeats 4000000 in
theorem c_X4_isWaiting {l : Launch} {D : va_G} {cy : Nat → ClassId} {base : Nat} {st : Nat → Nat} {K : Nat → Nat} {L : List Nat} {c r : zS} {o : Int64} {z : Nat} (th : Nat) {rv : Int32}  (hk_th : K th = 4) (hf : f_X4_isWaiting K z c th = some rv) : Met l yX4_isWaiting wsX4_isWaiting ({ frames := 0, cells := 0, slots := 0, locals := 0 }) (va_Pc [.ref th] (zGW zts0 zns0 D cy base st K L (c, r, o))) (va_Qi (fun (rr : Int32) (_ : Unit) => rr = rv) (fun _ => zB D cy base K L (c, r, o)) (zA base)) 0 0 (zA base) := by
  refine Met.ofW (cc := cX4_isWaiting) (maxL := 1) (ret := (some .boolean)) (by decide) rfl ?_
  intro p e s m args below meth cd s₁ B hml hv
  obtain ⟨rfl, hG⟩ := hv
  have hx := B.exec
  have hb := B.bytes
  have hr := B.returns
  have hts := atoms_spec (ws := wsX4_isWaiting) B.pre
  have hown : s.vm.findClass RX4 = some m.cls := findClass_of_methodNamed B.named
  have hlocks := B.notSynchronized
  have hC := hG.enter
  have hK := hG.2.2.2.1
  have hi1 : ∀ w ∈ wsX10, w ∈ wsX4_isWaiting := by decide +kernel
  have hi2 : ∀ w ∈ wsX20, w ∈ wsX4_isWaiting := by decide +kernel
  have hi4 : ∀ w ∈ wsX40, w ∈ wsX4_isWaiting := by decide +kernel
  have w0 := hts (.fieldLink RX4 28 "MarketSquare$Trader" "today" "LMarketSquare$Today;") (by decide +kernel)
  have w1 := hts (.fieldLink RX4 55 "MarketSquare$Today" "there" "Z") (by decide +kernel)
  have w2 := hts (.fieldLink RX4 59 "MarketSquare$Today" "stall" "LMarketSquare$Spot;") (by decide +kernel)
  have w3 := hts (.fieldLink RX4 62 "MarketSquare$Spot" "isSet" "Z") (by decide +kernel)
  have w4 := hts (.fieldLink RX4 65 "MarketSquare$Today" "left" "Z") (by decide +kernel)
  have hl := lv_entry ([.ref th]) (n := 1) (Nat.le_of_ble_eq_true rfl)
  rw [lg_entry_eq]
  generalize (lg_sl ([.ref th]) ++ List.replicate (1 - (lg_sl ([.ref th])).length) Slot.unset).toArray = ls at hl ⊢
  have hl : lv_has ls 1 [(0, .ref th)] := hl
  unfold f_X4_isWaiting at hf
  refine lv_aload_n hx hb dX4_isWaiting_0 rfl (lv_at hl 0 rfl) ?_
  refine zg_4_5 hx hb hts hi4 hown hK hC hk_th w0 dX4_isWaiting_1 ?_
  obtain ⟨a1, ea1, hk_a1, hf⟩ := zn_inv hf
  refine z_ref ea1 ?_
  refine zg_2_2 hx hb hts hi2 hown hK hC hk_a1 w1 dX4_isWaiting_4 ?_
  refine lv_if_eq (tgt := 37) hx hb dX4_isWaiting_7 (by decide) (fun h5 => ?_) (fun h5 => ?_)
  · have hf := zif_t hf h5
    refine lv_iconst (v := 0) hx hb dX4_isWaiting_37 (by decide) ?_
    exact z_zret hx hb hr hlocks hC (Or.inl rfl) hf dX4_isWaiting_38
  · have hf := zif_f hf h5
    refine lv_aload_n hx hb dX4_isWaiting_10 rfl (lv_at hl 0 rfl) ?_
    refine zg_4_5 hx hb hts hi4 hown hK hC hk_th w0 dX4_isWaiting_11 ?_
    refine z_ref ea1 ?_
    refine zg_2_0 hx hb hts hi2 hown hK hC hk_a1 w2 dX4_isWaiting_14 ?_
    obtain ⟨a2, ea2, hk_a2, hf⟩ := zn_inv hf
    refine z_ref ea2 ?_
    refine zg_1_0 hx hb hts hi1 hown hK hC hk_a2 w3 dX4_isWaiting_17 ?_
    refine lv_if_ne (tgt := 37) hx hb dX4_isWaiting_20 (by decide) (fun h4 => ?_) (fun h4 => ?_)
    · have hf := zif_f hf h4
      refine lv_iconst (v := 0) hx hb dX4_isWaiting_37 (by decide) ?_
      exact z_zret hx hb hr hlocks hC (Or.inl rfl) hf dX4_isWaiting_38
    · have hf := zif_t hf h4
      refine lv_aload_n hx hb dX4_isWaiting_23 rfl (lv_at hl 0 rfl) ?_
      refine zg_4_5 hx hb hts hi4 hown hK hC hk_th w0 dX4_isWaiting_24 ?_
      refine z_ref ea1 ?_
      refine zg_2_6 hx hb hts hi2 hown hK hC hk_a1 w4 dX4_isWaiting_27 ?_
      refine lv_if_ne (tgt := 37) hx hb dX4_isWaiting_30 (by decide) (fun h3 => ?_) (fun h3 => ?_)
      · have hf := zif_f hf h3
        refine lv_iconst (v := 0) hx hb dX4_isWaiting_37 (by decide) ?_
        exact z_zret hx hb hr hlocks hC (Or.inl rfl) hf dX4_isWaiting_38
      · have hf := zif_t hf h3
        refine lv_iconst (v := 1) hx hb dX4_isWaiting_33 (by decide) ?_
        refine lv_goto (tgt := 38) hx hb dX4_isWaiting_34 (by decide) ?_
        exact z_zret hx hb hr hlocks hC (Or.inr rfl) hf dX4_isWaiting_38
def f_X0_isOpenFor_15 (K : Nat → Nat) (z : Nat) (c : zS) (th : Nat) (t1 : Nat) (p2 : Int32) : Option Int32 :=
  zb (f_X0_isMarked K z c th p2 1 3) fun x5 => (if x5 = 0 then some 1 else some 0)
def f_X0_isOpenFor (K : Nat → Nat) (z : Nat) (c : zS) (th : Nat) (t1 : Nat) (p2 : Int32) : Option Int32 :=
  zb (f_X0_holderAt K z c th p2) fun o2 => zo K o2 4 (f_X0_isOpenFor_15 K z c th t1 p2) fun a3 => (if a3 = t1 then f_X0_isOpenFor_15 K z c th t1 p2 else some 0)
set_option maxRecDepth 100000 in
set_option maxHeartbeats 4000000 in
theorem c_X0_isOpenFor {l : Launch} {D : va_G} {cy : Nat → ClassId} {base : Nat} {st : Nat → Nat} {K : Nat → Nat} {L : List Nat} {c r : zS} {o : Int64} {z : Nat} (th : Nat) (t1 : Nat) (p2 : Int32) {rv : Int32}  (hk_th : K th = 0) (hk_t1 : K t1 = 4) (hf : f_X0_isOpenFor K z c th t1 p2 = some rv) : Met l yX0_isOpenFor wsX0_isOpenFor ({ frames := 2, cells := 0, slots := 0, locals := 45 }) (va_Pc [.ref th, .ref t1, .int p2] (zGW zts0 zns0 D cy base st K L (c, r, o))) (va_Qi (fun (rr : Int32) (_ : Unit) => rr = rv) (fun _ => zB D cy base K L (c, r, o)) (zA base)) 0 0 (zA base) := by
  refine Met.ofW (cc := cX0_isOpenFor) (maxL := 4) (ret := (some .boolean)) (by decide) rfl ?_
  intro p e s m args below meth cd s₁ B hml hv
  obtain ⟨rfl, hG⟩ := hv
  have hx := B.exec
  have hb := B.bytes
  have hr := B.returns
  have hts := atoms_spec (ws := wsX0_isOpenFor) B.pre
  have hown : s.vm.findClass RX0 = some m.cls := findClass_of_methodNamed B.named
  have hlocks := B.notSynchronized
  have hC := hG.enter
  have hK := hG.2.2.2.1
  have hl := lv_entry ([.ref th, .ref t1, .int p2]) (n := 4) (Nat.le_of_ble_eq_true rfl)
  rw [lg_entry_eq]
  generalize (lg_sl ([.ref th, .ref t1, .int p2]) ++ List.replicate (4 - (lg_sl ([.ref th, .ref t1, .int p2])).length) Slot.unset).toArray = ls at hl ⊢
  have hl : lv_has ls 4 [(0, .ref th), (1, .ref t1), (2, .int p2)] := hl
  have J15 : ∀ (H : Heap) (locs : List Loc) (ls : Array Slot), zC D cy base K L (c, r, o) s.heap H locs → lv_has ls 4 [(0, .ref th), (1, .ref t1), (2, .int p2)] → f_X0_isOpenFor_15 K z c th t1 p2 = some rv → W p l e (headSpec wsX0_isOpenFor ({ frames := 2, cells := 0, slots := 0, locals := 45 })).room s m ([.ref th, .ref t1, .int p2] : List Value).toArray below meth cd H locs 0 0 (MQ below (va_Qi (fun (rr : Int32) (_ : Unit) => rr = rv) (fun _ => zB D cy base K L (c, r, o)) (zA base)) ([.ref th, .ref t1, .int p2] : List Value).toArray s 0 0 (zA base)) (F0 m 15 ls []) := by
    intro H locs ls hC hl hf
    unfold f_X0_isOpenFor_15 at hf
    refine lv_aload_n hx hb dX0_isOpenFor_15 rfl (lv_at hl 0 rfl) ?_
    refine lv_iload_n hx hb dX0_isOpenFor_16 rfl (lv_at hl 2 rfl) ?_
    refine lv_iconst (v := 1) hx hb dX0_isOpenFor_17 (by decide) ?_
    refine lv_iconst (v := 3) hx hb dX0_isOpenFor_18 (by decide) ?_
    obtain ⟨x5, hc4, hf⟩ := zb_inv hf
    refine z_ci (z_rV (As := [.int p2, .int 1, .int 3]) (rest := []) ⟨hx, hb, hml, hown, hts⟩ (c_X0_isMarked (l := l) (D := D) (cy := cy) (base := base) (st := st) (K := K) (L := L) (c := c) (r := r) (o := o) (z := z) th p2 1 3 hk_th hc4) (cwV 3 hts gX0_isOpenFor_X0_isMarked rfl rfl rfl (by decide +kernel) ⟨Nat.le_of_ble_eq_true rfl, Nat.le_of_ble_eq_true rfl⟩) hG hC (zC.recv (ci := 0) (fs := _) hK hC (by rw [hk_th]; decide) (by rw [hk_th]; exact zc_0 cy _ _) rfl) rfl hl.1 rfl (lv_room (Nat.le_of_ble_eq_true rfl)) dX0_isOpenFor_19 ⟨Nat.le_of_ble_eq_true rfl, Nat.le_of_ble_eq_true rfl⟩) hC (fun H locs hC => ?_)
    refine lv_if_ne (tgt := 29) hx hb dX0_isOpenFor_22 (by decide) (fun h6 => ?_) (fun h6 => ?_)
    · have hf := zif_f hf h6
      refine lv_iconst (v := 0) hx hb dX0_isOpenFor_29 (by decide) ?_
      exact z_zret hx hb hr hlocks hC (Or.inl rfl) hf dX0_isOpenFor_30
    · have hf := zif_t hf h6
      refine lv_iconst (v := 1) hx hb dX0_isOpenFor_25 (by decide) ?_
      refine lv_goto (tgt := 30) hx hb dX0_isOpenFor_26 (by decide) ?_
      exact z_zret hx hb hr hlocks hC (Or.inr rfl) hf dX0_isOpenFor_30
  unfold f_X0_isOpenFor at hf
  refine lv_aload_n hx hb dX0_isOpenFor_0 rfl (lv_at hl 0 rfl) ?_
  refine lv_iload_n hx hb dX0_isOpenFor_1 rfl (lv_at hl 2 rfl) ?_
  obtain ⟨o2, hc1, hf⟩ := zb_inv hf
  refine z_cq (z_rV (As := [.int p2]) (rest := []) ⟨hx, hb, hml, hown, hts⟩ (c_X0_holderAt (l := l) (D := D) (cy := cy) (base := base) (st := st) (K := K) (L := L) (c := c) (r := r) (o := o) (z := z) th p2 hk_th hc1) (cwV 1 hts gX0_isOpenFor_X0_holderAt rfl rfl rfl (by decide +kernel) ⟨Nat.le_of_ble_eq_true rfl, Nat.le_of_ble_eq_true rfl⟩) hG hC (zC.recv (ci := 0) (fs := _) hK hC (by rw [hk_th]; decide) (by rw [hk_th]; exact zc_0 cy _ _) rfl) rfl hl.1 rfl (lv_room (Nat.le_of_ble_eq_true rfl)) dX0_isOpenFor_2 ⟨Nat.le_of_ble_eq_true rfl, Nat.le_of_ble_eq_true rfl⟩) hC (fun H locs hC => ?_)
  refine z_astore_n (lv' := [(3, va_rf o2), (0, .ref th), (1, .ref t1), (2, .int p2)]) hx hb dX0_isOpenFor_5 rfl hl (by decide) rfl (fun ls hl => ?_)
  refine z_aload_n hx hb dX0_isOpenFor_6 rfl (lv_at hl 0 rfl) ?_
  rcases zo_inv hf with ⟨e0, hf0⟩ | ⟨a3, e0, hk_a3, hf0⟩
  · subst e0; have hf := hf0
    have hl : lv_has ls 4 [(3, .null), (0, .ref th), (1, .ref t1), (2, .int p2)] := hl
    refine lv_ifnullN (tgt := 15) hx hb dX0_isOpenFor_7 (by decide) ?_
    exact J15 _ _ _ hC (lv_sub hl [1, 2, 3] rfl) hf
  · subst e0; have hf := hf0
    have hl : lv_has ls 4 [(3, .ref a3), (0, .ref th), (1, .ref t1), (2, .int p2)] := hl
    refine lv_ifnull hx hb dX0_isOpenFor_7 ?_
    refine lv_aload_n hx hb dX0_isOpenFor_10 rfl (lv_at hl 0 rfl) ?_
    refine lv_aload_n hx hb dX0_isOpenFor_11 rfl (lv_at hl 2 rfl) ?_
    refine z_acmp_ne (tgt := 29) hx hb dX0_isOpenFor_12 (by decide) (fun h7 => ?_) (fun h7 => ?_)
    · have hf := zif_f hf h7
      refine lv_iconst (v := 0) hx hb dX0_isOpenFor_29 (by decide) ?_
      exact z_zret hx hb hr hlocks hC (Or.inl rfl) hf dX0_isOpenFor_30
    · have hf := zif_t hf h7
      exact J15 _ _ _ hC (lv_sub hl [1, 2, 3] rfl) hf
def f_X6_firstSpotOfSquare_48 (K : Nat → Nat) (z : Nat) (c : zS) (th : Nat) (t1 : Nat) (rec2 : (Int32 → Option Int32)) (rec21 : (Int32 → Nat → Int32 → Int32 → Option Int32)) (v2 : Int32) (v3 : Nat) (v5 : Int32) (s0 : Int32) : Option Int32 :=
  zlet ((v5 - (zi c 82 t1 0)) + 1) fun x6 => (if s0 < (zi c 82 t1 0) then zlet (v5 + 1) fun x7 => rec21 v2 v3 s0 x7 else zb (f_X6_against K z c th t1 v2 x6) fun x9 => (if x9 = 0 then some ((v2 * 200) + x6) else zlet (v5 + 1) fun x10 => rec21 v2 v3 s0 x10))
def f_X6_firstSpotOfSquare_21 (K : Nat → Nat) (z : Nat) (c : zS) (th : Nat) (t1 : Nat) (rec2 : (Int32 → Option Int32)) : Nat → Int32 → Nat → Int32 → Int32 → Option Int32
  | 0, _, _, _, _ => none
  | n + 1, v2, v3, v4, v5 =>
    (if (zi c 2 v3 0) ≤ v5 then zlet (v2 + 1) fun x3 => rec2 x3 else zb (f_X0_isOpenFor K z c v3 t1 v5) fun x5 => (if x5 = 0 then f_X6_firstSpotOfSquare_48 K z c th t1 rec2 (f_X6_firstSpotOfSquare_21 K z c th t1 rec2 n) v2 v3 v5 0 else f_X6_firstSpotOfSquare_48 K z c th t1 rec2 (f_X6_firstSpotOfSquare_21 K z c th t1 rec2 n) v2 v3 v5 (v4 + 1)))
def f_X6_firstSpotOfSquare_2 (K : Nat → Nat) (z : Nat) (c : zS) (th : Nat) (t1 : Nat) : Nat → Int32 → Option Int32
  | 0, _ => none
  | n + 1, v2 =>
    (if 40 ≤ v2 then some (-1) else zn K (zr c 120 th 0) 11 fun a1 => zx v2 40 <| zn K (zr c 143 a1 (Int32.toNatClampNeg v2)) 0 fun a2 => f_X6_firstSpotOfSquare_21 K z c th t1 (f_X6_firstSpotOfSquare_2 K z c th t1 n) z v2 a2 0 0)
def f_X6_firstSpotOfSquare (K : Nat → Nat) (z : Nat) (c : zS) (th : Nat) (t1 : Nat) : Option Int32 :=
  f_X6_firstSpotOfSquare_2 K z c th t1 z 0
set_option maxRecDepth 100000 in
set_option maxHeartbeats 4000000 in
theorem c_X6_firstSpotOfSquare {l : Launch} {D : va_G} {cy : Nat → ClassId} {base : Nat} {st : Nat → Nat} {K : Nat → Nat} {L : List Nat} {c r : zS} {o : Int64} {z : Nat} (th : Nat) (t1 : Nat) {rv : Int32}  (hk_th : K th = 6) (hk_t1 : K t1 = 4) (hf : f_X6_firstSpotOfSquare K z c th t1 = some rv) : Met l yX6_firstSpotOfSquare wsX6_firstSpotOfSquare ({ frames := 4, cells := 0, slots := 0, locals := 90 }) (va_Pc [.ref th, .ref t1] (zGW zts0 zns0 D cy base st K L (c, r, o))) (va_Qi (fun (rr : Int32) (_ : Unit) => rr = rv) (fun _ => zB D cy base K L (c, r, o)) (zA base)) 0 0 (zA base) := by
  refine Met.ofW (cc := cX6_firstSpotOfSquare) (maxL := 7) (ret := (some .int)) (by decide) rfl ?_
  intro p e s m args below meth cd s₁ B hml hv
  obtain ⟨rfl, hG⟩ := hv
  have hx := B.exec
  have hb := B.bytes
  have hr := B.returns
  have hts := atoms_spec (ws := wsX6_firstSpotOfSquare) B.pre
  have hown : s.vm.findClass RX6 = some m.cls := findClass_of_methodNamed B.named
  have hlocks := B.notSynchronized
  have hC := hG.enter
  have hK := hG.2.2.2.1
  have hi0 : ∀ w ∈ wsX00, w ∈ wsX6_firstSpotOfSquare := by decide +kernel
  have hi4 : ∀ w ∈ wsX40, w ∈ wsX6_firstSpotOfSquare := by decide +kernel
  have hi6 : ∀ w ∈ wsX60, w ∈ wsX6_firstSpotOfSquare := by decide +kernel
  have w0 := hts (.fieldLink RX6 11 "MarketSquare" "rows" "[LMarketSquare$Row;") (by decide +kernel)
  have w1 := hts (.fieldLink RX6 305 "MarketSquare$Row" "places" "I") (by decide +kernel)
  have w2 := hts (.fieldLink RX6 260 "MarketSquare$Trader" "front" "I") (by decide +kernel)
  have hl := lv_entry ([.ref th, .ref t1]) (n := 7) (Nat.le_of_ble_eq_true rfl)
  rw [lg_entry_eq]
  generalize (lg_sl ([.ref th, .ref t1]) ++ List.replicate (7 - (lg_sl ([.ref th, .ref t1])).length) Slot.unset).toArray = ls at hl ⊢
  have hl : lv_has ls 7 [(0, .ref th), (1, .ref t1)] := hl
  have L2 : ∀ (n2 : Nat) (H : Heap) (locs : List Loc) (ls : Array Slot) (v2 : Int32), zC D cy base K L (c, r, o) s.heap H locs → lv_has ls 7 [(0, .ref th), (1, .ref t1), (2, .int v2)] → f_X6_firstSpotOfSquare_2 K z c th t1 n2 v2 = some rv → W p l e (headSpec wsX6_firstSpotOfSquare ({ frames := 4, cells := 0, slots := 0, locals := 90 })).room s m ([.ref th, .ref t1] : List Value).toArray below meth cd H locs 0 0 (MQ below (va_Qi (fun (rr : Int32) (_ : Unit) => rr = rv) (fun _ => zB D cy base K L (c, r, o)) (zA base)) ([.ref th, .ref t1] : List Value).toArray s 0 0 (zA base)) (F0 m 2 ls []) := by
    intro n2
    induction n2 with
    | zero => intro H locs ls v2 hC hl hf; rw [f_X6_firstSpotOfSquare_2] at hf; cases hf
    | succ n2 ih2 =>
      intro H locs ls v2 hC hl hf
      rw [f_X6_firstSpotOfSquare_2] at hf
      have L21 : ∀ (n21 : Nat) (H : Heap) (locs : List Loc) (ls : Array Slot) (v2 : Int32) (v3 : Nat) (v4 : Int32) (v5 : Int32), K v3 = 0 → zC D cy base K L (c, r, o) s.heap H locs → lv_has ls 7 [(0, .ref th), (1, .ref t1), (2, .int v2), (3, .ref v3), (4, .int v4), (5, .int v5)] → f_X6_firstSpotOfSquare_21 K z c th t1 (f_X6_firstSpotOfSquare_2 K z c th t1 n2) n21 v2 v3 v4 v5 = some rv → W p l e (headSpec wsX6_firstSpotOfSquare ({ frames := 4, cells := 0, slots := 0, locals := 90 })).room s m ([.ref th, .ref t1] : List Value).toArray below meth cd H locs 0 0 (MQ below (va_Qi (fun (rr : Int32) (_ : Unit) => rr = rv) (fun _ => zB D cy base K L (c, r, o)) (zA base)) ([.ref th, .ref t1] : List Value).toArray s 0 0 (zA base)) (F0 m 21 ls []) := by
        intro n21
        induction n21 with
        | zero => intro H locs ls v2 v3 v4 v5 hk_v3 hC hl hf; rw [f_X6_firstSpotOfSquare_21] at hf; cases hf
        | succ n21 ih21 =>
          intro H locs ls v2 v3 v4 v5 hk_v3 hC hl hf
          rw [f_X6_firstSpotOfSquare_21] at hf
          have J48 : ∀ (H : Heap) (locs : List Loc) (ls : Array Slot) (v2 : Int32) (v3 : Nat) (v5 : Int32) (s0 : Int32), K v3 = 0 → zC D cy base K L (c, r, o) s.heap H locs → lv_has ls 7 [(0, .ref th), (1, .ref t1), (2, .int v2), (3, .ref v3), (5, .int v5)] → f_X6_firstSpotOfSquare_48 K z c th t1 (f_X6_firstSpotOfSquare_2 K z c th t1 n2) (f_X6_firstSpotOfSquare_21 K z c th t1 (f_X6_firstSpotOfSquare_2 K z c th t1 n2) n21) v2 v3 v5 s0 = some rv → W p l e (headSpec wsX6_firstSpotOfSquare ({ frames := 4, cells := 0, slots := 0, locals := 90 })).room s m ([.ref th, .ref t1] : List Value).toArray below meth cd H locs 0 0 (MQ below (va_Qi (fun (rr : Int32) (_ : Unit) => rr = rv) (fun _ => zB D cy base K L (c, r, o)) (zA base)) ([.ref th, .ref t1] : List Value).toArray s 0 0 (zA base)) (F0 m 48 ls [.int s0]) := by
            intro H locs ls v2 v3 v5 s0 hk_v3 hC hl hf
            unfold f_X6_firstSpotOfSquare_48 at hf
            refine lv_istore (lv' := [(4, .int s0), (0, .ref th), (1, .ref t1), (2, .int v2), (3, .ref v3), (5, .int v5)]) hx hb dX6_firstSpotOfSquare_48 hl (by decide) rfl (fun ls hl => ?_)
            refine lv_iload hx hb dX6_firstSpotOfSquare_50 (lv_at hl 5 rfl) ?_
            refine lv_aload_n hx hb dX6_firstSpotOfSquare_52 rfl (lv_at hl 2 rfl) ?_
            refine zg_4_2 hx hb hts hi4 hown hK hC hk_t1 w2 dX6_firstSpotOfSquare_53 ?_
            refine lv_isub hx hb dX6_firstSpotOfSquare_56 ?_
            refine lv_iconst (v := 1) hx hb dX6_firstSpotOfSquare_57 (by decide) ?_
            refine lv_iadd hx hb dX6_firstSpotOfSquare_58 ?_
            obtain ⟨x6, ex6, hf⟩ := zlet_inv hf
            refine z_name ex6 ?_
            refine lv_istore (lv' := [(6, .int x6), (4, .int s0), (0, .ref th), (1, .ref t1), (2, .int v2), (3, .ref v3), (5, .int v5)]) hx hb dX6_firstSpotOfSquare_59 hl (by decide) rfl (fun ls hl => ?_)
            refine lv_iload hx hb dX6_firstSpotOfSquare_61 (lv_at hl 1 rfl) ?_
            refine lv_aload_n hx hb dX6_firstSpotOfSquare_63 rfl (lv_at hl 3 rfl) ?_
            refine zg_4_2 hx hb hts hi4 hown hK hC hk_t1 w2 dX6_firstSpotOfSquare_64 ?_
            refine lv_icmp_lt (tgt := 90) hx hb dX6_firstSpotOfSquare_67 (by decide) (fun h12 => ?_) (fun h12 => ?_)
            · have hf := zif_t hf h12
              obtain ⟨x7, ex7, hf⟩ := zlet_inv hf
              refine lv_iinc (v := x7) (lv' := [(5, .int x7), (6, .int x6), (4, .int s0), (0, .ref th), (1, .ref t1), (2, .int v2), (3, .ref v3)]) hx hb dX6_firstSpotOfSquare_90 hl (k := 6) rfl (by rw [ex7]; rfl) (by decide) rfl (fun ls hl => ?_)
              refine lv_goto (tgt := 21) hx hb dX6_firstSpotOfSquare_93 (by decide) ?_
              exact ih21 _ _ _ v2 v3 s0 x7 hk_v3 hC (lv_sub hl [3, 4, 5, 6, 2, 0] rfl) hf
            · have hf := zif_f hf h12
              refine lv_aload_n hx hb dX6_firstSpotOfSquare_70 rfl (lv_at hl 2 rfl) ?_
              refine lv_aload_n hx hb dX6_firstSpotOfSquare_71 rfl (lv_at hl 3 rfl) ?_
              refine lv_iload_n hx hb dX6_firstSpotOfSquare_72 rfl (lv_at hl 4 rfl) ?_
              refine lv_iload hx hb dX6_firstSpotOfSquare_73 (lv_at hl 0 rfl) ?_
              obtain ⟨x9, hc8, hf⟩ := zb_inv hf
              refine z_ci (z_rV (As := [.ref t1, .int v2, .int x6]) (rest := []) ⟨hx, hb, hml, hown, hts⟩ (c_X6_against (l := l) (D := D) (cy := cy) (base := base) (st := st) (K := K) (L := L) (c := c) (r := r) (o := o) (z := z) th t1 v2 x6 hk_th hk_t1 hc8) (cwV 3 hts gX6_firstSpotOfSquare_X6_against rfl rfl rfl (by decide +kernel) ⟨Nat.le_of_ble_eq_true rfl, Nat.le_of_ble_eq_true rfl⟩) hG hC (zC.recv (ci := 6) (fs := _) hK hC (by rw [hk_th]; decide) (by rw [hk_th]; exact zc_6 cy _ _) rfl) rfl hl.1 rfl (lv_room (Nat.le_of_ble_eq_true rfl)) dX6_firstSpotOfSquare_75 ⟨Nat.le_of_ble_eq_true rfl, Nat.le_of_ble_eq_true rfl⟩) hC (fun H locs hC => ?_)
              refine lv_if_ne (tgt := 90) hx hb dX6_firstSpotOfSquare_78 (by decide) (fun h11 => ?_) (fun h11 => ?_)
              · have hf := zif_f hf h11
                obtain ⟨x10, ex10, hf⟩ := zlet_inv hf
                refine lv_iinc (v := x10) (lv' := [(5, .int x10), (6, .int x6), (4, .int s0), (0, .ref th), (1, .ref t1), (2, .int v2), (3, .ref v3)]) hx hb dX6_firstSpotOfSquare_90 hl (k := 6) rfl (by rw [ex10]; rfl) (by decide) rfl (fun ls hl => ?_)
                refine lv_goto (tgt := 21) hx hb dX6_firstSpotOfSquare_93 (by decide) ?_
                exact ih21 _ _ _ v2 v3 s0 x10 hk_v3 hC (lv_sub hl [3, 4, 5, 6, 2, 0] rfl) hf
              · have hf := zif_t hf h11
                refine lv_iload_n hx hb dX6_firstSpotOfSquare_81 rfl (lv_at hl 4 rfl) ?_
                refine lv_sipush (v := 200) hx hb dX6_firstSpotOfSquare_82 (by decide) ?_
                refine lv_imul hx hb dX6_firstSpotOfSquare_85 ?_
                refine lv_iload hx hb dX6_firstSpotOfSquare_86 (lv_at hl 0 rfl) ?_
                refine lv_iadd hx hb dX6_firstSpotOfSquare_88 ?_
                exact z_iret hx hb hr hlocks hC hf dX6_firstSpotOfSquare_89
          refine lv_iload hx hb dX6_firstSpotOfSquare_21 (lv_at hl 5 rfl) ?_
          refine lv_aload_n hx hb dX6_firstSpotOfSquare_23 rfl (lv_at hl 3 rfl) ?_
          refine zg_0_2 hx hb hts hi0 hown hK hC hk_v3 w1 dX6_firstSpotOfSquare_24 ?_
          refine lv_icmp_ge (tgt := 96) hx hb dX6_firstSpotOfSquare_27 (by decide) (fun h14 => ?_) (fun h14 => ?_)
          · have hf := zif_t hf h14
            obtain ⟨x3, ex3, hf⟩ := zlet_inv hf
            refine lv_iinc (v := x3) (lv' := [(2, .int x3), (0, .ref th), (1, .ref t1), (3, .ref v3), (4, .int v4), (5, .int v5)]) hx hb dX6_firstSpotOfSquare_96 hl (k := 2) rfl (by rw [ex3]; rfl) (by decide) rfl (fun ls hl => ?_)
            refine lv_goto (tgt := 2) hx hb dX6_firstSpotOfSquare_99 (by decide) ?_
            exact ih2 _ _ _ x3 hC (lv_sub hl [1, 2, 0] rfl) hf
          · have hf := zif_f hf h14
            refine lv_aload_n hx hb dX6_firstSpotOfSquare_30 rfl (lv_at hl 3 rfl) ?_
            refine lv_aload_n hx hb dX6_firstSpotOfSquare_31 rfl (lv_at hl 1 rfl) ?_
            refine lv_iload hx hb dX6_firstSpotOfSquare_32 (lv_at hl 5 rfl) ?_
            obtain ⟨x5, hc4, hf⟩ := zb_inv hf
            refine z_ci (z_rV (As := [.ref t1, .int v5]) (rest := []) ⟨hx, hb, hml, hown, hts⟩ (c_X0_isOpenFor (l := l) (D := D) (cy := cy) (base := base) (st := st) (K := K) (L := L) (c := c) (r := r) (o := o) (z := z) v3 t1 v5 hk_v3 hk_t1 hc4) (cwV 2 hts gX6_firstSpotOfSquare_X0_isOpenFor rfl rfl rfl (by decide +kernel) ⟨Nat.le_of_ble_eq_true rfl, Nat.le_of_ble_eq_true rfl⟩) hG hC (zC.recv (ci := 0) (fs := _) hK hC (by rw [hk_v3]; decide) (by rw [hk_v3]; exact zc_0 cy _ _) rfl) rfl hl.1 rfl (lv_room (Nat.le_of_ble_eq_true rfl)) dX6_firstSpotOfSquare_34 ⟨Nat.le_of_ble_eq_true rfl, Nat.le_of_ble_eq_true rfl⟩) hC (fun H locs hC => ?_)
            refine lv_if_eq (tgt := 47) hx hb dX6_firstSpotOfSquare_37 (by decide) (fun h13 => ?_) (fun h13 => ?_)
            · have hf := zif_t hf h13
              refine lv_iconst (v := 0) hx hb dX6_firstSpotOfSquare_47 (by decide) ?_
              exact J48 _ _ _ v2 v3 v5 0 hk_v3 hC (lv_sub hl [0, 1, 2, 3, 5] rfl) hf
            · have hf := zif_f hf h13
              refine lv_iload hx hb dX6_firstSpotOfSquare_40 (lv_at hl 4 rfl) ?_
              refine lv_iconst (v := 1) hx hb dX6_firstSpotOfSquare_42 (by decide) ?_
              refine lv_iadd hx hb dX6_firstSpotOfSquare_43 ?_
              refine lv_goto (tgt := 48) hx hb dX6_firstSpotOfSquare_44 (by decide) ?_
              exact J48 _ _ _ v2 v3 v5 (v4 + 1) hk_v3 hC (lv_sub hl [0, 1, 2, 3, 5] rfl) hf
      refine lv_iload_n hx hb dX6_firstSpotOfSquare_2 rfl (lv_at hl 2 rfl) ?_
      refine lv_bipush (v := 40) hx hb dX6_firstSpotOfSquare_3 (by decide) ?_
      refine lv_icmp_ge (tgt := 102) hx hb dX6_firstSpotOfSquare_5 (by decide) (fun h15 => ?_) (fun h15 => ?_)
      · have hf := zif_t hf h15
        refine lv_iconst (v := (-1)) hx hb dX6_firstSpotOfSquare_102 (by decide) ?_
        exact z_iret hx hb hr hlocks hC hf dX6_firstSpotOfSquare_103
      · have hf := zif_f hf h15
        refine lv_aload_n hx hb dX6_firstSpotOfSquare_8 rfl (lv_at hl 0 rfl) ?_
        refine zg_6_0 hx hb hts hi6 hown hK hC hk_th w0 dX6_firstSpotOfSquare_9 ?_
        obtain ⟨a1, ea1, hk_a1, hf⟩ := zn_inv hf
        refine z_ref ea1 ?_
        refine lv_iload_n hx hb dX6_firstSpotOfSquare_12 rfl (lv_at hl 2 rfl) ?_
        obtain ⟨hix, hf⟩ := zx_inv hf
        refine xg_11 hx hb hK hC hk_a1 hix dX6_firstSpotOfSquare_13 ?_
        obtain ⟨a2, ea2, hk_a2, hf⟩ := zn_inv hf
        refine z_ref ea2 ?_
        refine lv_astore_n (lv' := [(3, .ref a2), (0, .ref th), (1, .ref t1), (2, .int v2)]) hx hb dX6_firstSpotOfSquare_14 rfl hl (by decide) rfl (fun ls hl => ?_)
        refine lv_iconst (v := 0) hx hb dX6_firstSpotOfSquare_15 (by decide) ?_
        refine lv_istore (lv' := [(4, .int 0), (3, .ref a2), (0, .ref th), (1, .ref t1), (2, .int v2)]) hx hb dX6_firstSpotOfSquare_16 hl (by decide) rfl (fun ls hl => ?_)
        refine lv_iconst (v := 0) hx hb dX6_firstSpotOfSquare_18 (by decide) ?_
        refine lv_istore (lv' := [(5, .int 0), (4, .int 0), (3, .ref a2), (0, .ref th), (1, .ref t1), (2, .int v2)]) hx hb dX6_firstSpotOfSquare_19 hl (by decide) rfl (fun ls hl => ?_)
        exact L21 z _ _ _ v2 a2 0 0 hk_a2 hC (lv_sub hl [3, 4, 5, 2, 1, 0] rfl) hf
  unfold f_X6_firstSpotOfSquare at hf
  refine lv_iconst (v := 0) hx hb dX6_firstSpotOfSquare_0 (by decide) ?_
  refine lv_istore_n (lv' := [(2, .int 0), (0, .ref th), (1, .ref t1)]) hx hb dX6_firstSpotOfSquare_1 rfl hl (by decide) rfl (fun ls hl => ?_)
  exact L2 z _ _ _ 0 hC (lv_sub hl [1, 2, 0] rfl) hf
def f_X6_goodSpot_27 (K : Nat → Nat) (z : Nat) (c : zS) (th : Nat) (t1 : Nat) : Nat → Int32 → Option Int32
  | 0, _ => none
  | n + 1, v2 =>
    zn K (zr c 84 t1 0) 5 fun a7 => (if (zi c 102 a7 0) ≤ v2 then (if (zi c 103 a7 0) = 0 then some (-1) else zb (f_X6_firstSpotOfSquare K z c th t1) fun x9 => some x9) else zn K (zr c 100 a7 0) 9 fun a11 => zx v2 12 <| zn K (zr c 101 a7 0) 10 fun a12 => zx v2 12 <| zb (f_X6_against K z c th t1 (zi c 141 a11 (Int32.toNatClampNeg v2)) (zi c 142 a12 (Int32.toNatClampNeg v2))) fun x14 => (if x14 = 0 then zx v2 12 <| zx v2 12 <| some (((zi c 141 a11 (Int32.toNatClampNeg v2)) * 200) + (zi c 142 a12 (Int32.toNatClampNeg v2))) else zlet (v2 + 1) fun x15 => f_X6_goodSpot_27 K z c th t1 n x15))
def f_X6_goodSpot (K : Nat → Nat) (z : Nat) (c : zS) (th : Nat) (t1 : Nat) : Option Int32 :=
  zb (f_X6_isTradeAtLimit K z c t1) fun x2 => (if x2 = 0 then zb (f_X6_isOutOfMonth K z c th t1) fun x4 => (if x4 = 0 then zb (f_X6_isSecondCharity K z c th t1) fun x6 => (if x6 = 0 then f_X6_goodSpot_27 K z c th t1 z 0 else some (-1)) else some (-1)) else some (-1))
set_option maxRecDepth 100000 in
set_option maxHeartbeats 4000000 in
theorem c_X6_goodSpot {l : Launch} {D : va_G} {cy : Nat → ClassId} {base : Nat} {st : Nat → Nat} {K : Nat → Nat} {L : List Nat} {c r : zS} {o : Int64} {z : Nat} (th : Nat) (t1 : Nat) {rv : Int32}  (hk_th : K th = 6) (hk_t1 : K t1 = 4) (hf : f_X6_goodSpot K z c th t1 = some rv) : Met l yX6_goodSpot wsX6_goodSpot ({ frames := 5, cells := 0, slots := 0, locals := 116 }) (va_Pc [.ref th, .ref t1] (zGW zts0 zns0 D cy base st K L (c, r, o))) (va_Qi (fun (rr : Int32) (_ : Unit) => rr = rv) (fun _ => zB D cy base K L (c, r, o)) (zA base)) 0 0 (zA base) := by
  refine Met.ofW (cc := cX6_goodSpot) (maxL := 3) (ret := (some .int)) (by decide) rfl ?_
  intro p e s m args below meth cd s₁ B hml hv
  obtain ⟨rfl, hG⟩ := hv
  have hx := B.exec
  have hb := B.bytes
  have hr := B.returns
  have hts := atoms_spec (ws := wsX6_goodSpot) B.pre
  have hown : s.vm.findClass RX6 = some m.cls := findClass_of_methodNamed B.named
  have hlocks := B.notSynchronized
  have hC := hG.enter
  have hK := hG.2.2.2.1
  have hi4 : ∀ w ∈ wsX40, w ∈ wsX6_goodSpot := by decide +kernel
  have hi5 : ∀ w ∈ wsX50, w ∈ wsX6_goodSpot := by decide +kernel
  have w0 := hts (.fieldLink RX6 136 "MarketSquare$Trader" "wish" "LMarketSquare$Wish;") (by decide +kernel)
  have w1 := hts (.fieldLink RX6 291 "MarketSquare$Wish" "length" "I") (by decide +kernel)
  have w2 := hts (.fieldLink RX6 294 "MarketSquare$Wish" "any" "Z") (by decide +kernel)
  have w3 := hts (.fieldLink RX6 390 "MarketSquare$Wish" "rows" "[I") (by decide +kernel)
  have w4 := hts (.fieldLink RX6 393 "MarketSquare$Wish" "places" "[I") (by decide +kernel)
  have hl := lv_entry ([.ref th, .ref t1]) (n := 3) (Nat.le_of_ble_eq_true rfl)
  rw [lg_entry_eq]
  generalize (lg_sl ([.ref th, .ref t1]) ++ List.replicate (3 - (lg_sl ([.ref th, .ref t1])).length) Slot.unset).toArray = ls at hl ⊢
  have hl : lv_has ls 3 [(0, .ref th), (1, .ref t1)] := hl
  have L27 : ∀ (n27 : Nat) (H : Heap) (locs : List Loc) (ls : Array Slot) (v2 : Int32), zC D cy base K L (c, r, o) s.heap H locs → lv_has ls 3 [(0, .ref th), (1, .ref t1), (2, .int v2)] → f_X6_goodSpot_27 K z c th t1 n27 v2 = some rv → W p l e (headSpec wsX6_goodSpot ({ frames := 5, cells := 0, slots := 0, locals := 116 })).room s m ([.ref th, .ref t1] : List Value).toArray below meth cd H locs 0 0 (MQ below (va_Qi (fun (rr : Int32) (_ : Unit) => rr = rv) (fun _ => zB D cy base K L (c, r, o)) (zA base)) ([.ref th, .ref t1] : List Value).toArray s 0 0 (zA base)) (F0 m 27 ls []) := by
    intro n27
    induction n27 with
    | zero => intro H locs ls v2 hC hl hf; rw [f_X6_goodSpot_27] at hf; cases hf
    | succ n27 ih27 =>
      intro H locs ls v2 hC hl hf
      rw [f_X6_goodSpot_27] at hf
      refine lv_iload_n hx hb dX6_goodSpot_27 rfl (lv_at hl 2 rfl) ?_
      refine lv_aload_n hx hb dX6_goodSpot_28 rfl (lv_at hl 1 rfl) ?_
      refine zg_4_4 hx hb hts hi4 hown hK hC hk_t1 w0 dX6_goodSpot_29 ?_
      obtain ⟨a7, ea7, hk_a7, hf⟩ := zn_inv hf
      refine z_ref ea7 ?_
      refine zg_5_2 hx hb hts hi5 hown hK hC hk_a7 w1 dX6_goodSpot_32 ?_
      refine lv_icmp_ge (tgt := 94) hx hb dX6_goodSpot_35 (by decide) (fun h17 => ?_) (fun h17 => ?_)
      · have hf := zif_t hf h17
        refine lv_aload_n hx hb dX6_goodSpot_94 rfl (lv_at hl 1 rfl) ?_
        refine zg_4_4 hx hb hts hi4 hown hK hC hk_t1 w0 dX6_goodSpot_95 ?_
        refine z_ref ea7 ?_
        refine zg_5_3 hx hb hts hi5 hown hK hC hk_a7 w2 dX6_goodSpot_98 ?_
        refine lv_if_eq (tgt := 112) hx hb dX6_goodSpot_101 (by decide) (fun h10 => ?_) (fun h10 => ?_)
        · have hf := zif_t hf h10
          refine lv_iconst (v := (-1)) hx hb dX6_goodSpot_112 (by decide) ?_
          exact z_iret hx hb hr hlocks hC hf dX6_goodSpot_113
        · have hf := zif_f hf h10
          refine lv_aload_n hx hb dX6_goodSpot_104 rfl (lv_at hl 0 rfl) ?_
          refine lv_aload_n hx hb dX6_goodSpot_105 rfl (lv_at hl 1 rfl) ?_
          obtain ⟨x9, hc8, hf⟩ := zb_inv hf
          refine z_ci (z_rV (As := [.ref t1]) (rest := []) ⟨hx, hb, hml, hown, hts⟩ (c_X6_firstSpotOfSquare (l := l) (D := D) (cy := cy) (base := base) (st := st) (K := K) (L := L) (c := c) (r := r) (o := o) (z := z) th t1 hk_th hk_t1 hc8) (cwV 1 hts gX6_goodSpot_X6_firstSpotOfSquare rfl rfl rfl (by decide +kernel) ⟨Nat.le_of_ble_eq_true rfl, Nat.le_of_ble_eq_true rfl⟩) hG hC (zC.recv (ci := 6) (fs := _) hK hC (by rw [hk_th]; decide) (by rw [hk_th]; exact zc_6 cy _ _) rfl) rfl hl.1 rfl (lv_room (Nat.le_of_ble_eq_true rfl)) dX6_goodSpot_106 ⟨Nat.le_of_ble_eq_true rfl, Nat.le_of_ble_eq_true rfl⟩) hC (fun H locs hC => ?_)
          refine lv_goto (tgt := 113) hx hb dX6_goodSpot_109 (by decide) ?_
          exact z_iret hx hb hr hlocks hC hf dX6_goodSpot_113
      · have hf := zif_f hf h17
        refine lv_aload_n hx hb dX6_goodSpot_38 rfl (lv_at hl 0 rfl) ?_
        refine lv_aload_n hx hb dX6_goodSpot_39 rfl (lv_at hl 1 rfl) ?_
        refine lv_aload_n hx hb dX6_goodSpot_40 rfl (lv_at hl 1 rfl) ?_
        refine zg_4_4 hx hb hts hi4 hown hK hC hk_t1 w0 dX6_goodSpot_41 ?_
        refine z_ref ea7 ?_
        refine zg_5_0 hx hb hts hi5 hown hK hC hk_a7 w3 dX6_goodSpot_44 ?_
        obtain ⟨a11, ea11, hk_a11, hf⟩ := zn_inv hf
        refine z_ref ea11 ?_
        refine lv_iload_n hx hb dX6_goodSpot_47 rfl (lv_at hl 2 rfl) ?_
        obtain ⟨hix, hf⟩ := zx_inv hf
        refine xg_9 hx hb hK hC hk_a11 hix dX6_goodSpot_48 ?_
        refine lv_aload_n hx hb dX6_goodSpot_49 rfl (lv_at hl 1 rfl) ?_
        refine zg_4_4 hx hb hts hi4 hown hK hC hk_t1 w0 dX6_goodSpot_50 ?_
        refine z_ref ea7 ?_
        refine zg_5_1 hx hb hts hi5 hown hK hC hk_a7 w4 dX6_goodSpot_53 ?_
        obtain ⟨a12, ea12, hk_a12, hf⟩ := zn_inv hf
        refine z_ref ea12 ?_
        refine lv_iload_n hx hb dX6_goodSpot_56 rfl (lv_at hl 2 rfl) ?_
        obtain ⟨hix, hf⟩ := zx_inv hf
        refine xg_10 hx hb hK hC hk_a12 hix dX6_goodSpot_57 ?_
        obtain ⟨x14, hc13, hf⟩ := zb_inv hf
        refine z_ci (z_rV (As := [.ref t1, .int (zi c 141 a11 (Int32.toNatClampNeg v2)), .int (zi c 142 a12 (Int32.toNatClampNeg v2))]) (rest := []) ⟨hx, hb, hml, hown, hts⟩ (c_X6_against (l := l) (D := D) (cy := cy) (base := base) (st := st) (K := K) (L := L) (c := c) (r := r) (o := o) (z := z) th t1 (zi c 141 a11 (Int32.toNatClampNeg v2)) (zi c 142 a12 (Int32.toNatClampNeg v2)) hk_th hk_t1 hc13) (cwV 3 hts gX6_goodSpot_X6_against rfl rfl rfl (by decide +kernel) ⟨Nat.le_of_ble_eq_true rfl, Nat.le_of_ble_eq_true rfl⟩) hG hC (zC.recv (ci := 6) (fs := _) hK hC (by rw [hk_th]; decide) (by rw [hk_th]; exact zc_6 cy _ _) rfl) rfl hl.1 rfl (lv_room (Nat.le_of_ble_eq_true rfl)) dX6_goodSpot_58 ⟨Nat.le_of_ble_eq_true rfl, Nat.le_of_ble_eq_true rfl⟩) hC (fun H locs hC => ?_)
        refine lv_if_ne (tgt := 88) hx hb dX6_goodSpot_61 (by decide) (fun h16 => ?_) (fun h16 => ?_)
        · have hf := zif_f hf h16
          obtain ⟨x15, ex15, hf⟩ := zlet_inv hf
          refine lv_iinc (v := x15) (lv' := [(2, .int x15), (0, .ref th), (1, .ref t1)]) hx hb dX6_goodSpot_88 hl (k := 2) rfl (by rw [ex15]; rfl) (by decide) rfl (fun ls hl => ?_)
          refine lv_goto (tgt := 27) hx hb dX6_goodSpot_91 (by decide) ?_
          exact ih27 _ _ _ x15 hC (lv_sub hl [1, 2, 0] rfl) hf
        · have hf := zif_t hf h16
          refine lv_aload_n hx hb dX6_goodSpot_64 rfl (lv_at hl 1 rfl) ?_
          refine zg_4_4 hx hb hts hi4 hown hK hC hk_t1 w0 dX6_goodSpot_65 ?_
          refine z_ref ea7 ?_
          refine zg_5_0 hx hb hts hi5 hown hK hC hk_a7 w3 dX6_goodSpot_68 ?_
          refine z_ref ea11 ?_
          refine lv_iload_n hx hb dX6_goodSpot_71 rfl (lv_at hl 2 rfl) ?_
          obtain ⟨hix, hf⟩ := zx_inv hf
          refine xg_9 hx hb hK hC hk_a11 hix dX6_goodSpot_72 ?_
          refine lv_sipush (v := 200) hx hb dX6_goodSpot_73 (by decide) ?_
          refine lv_imul hx hb dX6_goodSpot_76 ?_
          refine lv_aload_n hx hb dX6_goodSpot_77 rfl (lv_at hl 1 rfl) ?_
          refine zg_4_4 hx hb hts hi4 hown hK hC hk_t1 w0 dX6_goodSpot_78 ?_
          refine z_ref ea7 ?_
          refine zg_5_1 hx hb hts hi5 hown hK hC hk_a7 w4 dX6_goodSpot_81 ?_
          refine z_ref ea12 ?_
          refine lv_iload_n hx hb dX6_goodSpot_84 rfl (lv_at hl 2 rfl) ?_
          obtain ⟨hix, hf⟩ := zx_inv hf
          refine xg_10 hx hb hK hC hk_a12 hix dX6_goodSpot_85 ?_
          refine lv_iadd hx hb dX6_goodSpot_86 ?_
          exact z_iret hx hb hr hlocks hC hf dX6_goodSpot_87
  unfold f_X6_goodSpot at hf
  refine lv_aload_n hx hb dX6_goodSpot_0 rfl (lv_at hl 1 rfl) ?_
  obtain ⟨x2, hc1, hf⟩ := zb_inv hf
  refine z_ci (z_rS (b := 0) (As := [.ref t1]) (rest := []) ⟨hx, hb, hml, hown, hts⟩ (c_X6_isTradeAtLimit (l := l) (D := D) (cy := cy) (base := base) (st := st) (K := K) (L := L) (c := c) (r := r) (o := o) (z := z) t1 hk_t1 hc1) (va_cwS 1 hts gX6_goodSpot_X6_isTradeAtLimit rfl rfl rfl (by decide +kernel) ⟨Nat.le_of_ble_eq_true rfl, Nat.le_of_ble_eq_true rfl⟩) hG hC rfl hl.1 rfl (lv_room (Nat.le_of_ble_eq_true rfl)) dX6_goodSpot_1 ⟨Nat.le_of_ble_eq_true rfl, Nat.le_of_ble_eq_true rfl⟩) hC (fun H locs hC => ?_)
  refine lv_if_ne (tgt := 23) hx hb dX6_goodSpot_4 (by decide) (fun h20 => ?_) (fun h20 => ?_)
  · have hf := zif_f hf h20
    refine lv_iconst (v := (-1)) hx hb dX6_goodSpot_23 (by decide) ?_
    exact z_iret hx hb hr hlocks hC hf dX6_goodSpot_24
  · have hf := zif_t hf h20
    refine lv_aload_n hx hb dX6_goodSpot_7 rfl (lv_at hl 0 rfl) ?_
    refine lv_aload_n hx hb dX6_goodSpot_8 rfl (lv_at hl 1 rfl) ?_
    obtain ⟨x4, hc3, hf⟩ := zb_inv hf
    refine z_ci (z_rV (As := [.ref t1]) (rest := []) ⟨hx, hb, hml, hown, hts⟩ (c_X6_isOutOfMonth (l := l) (D := D) (cy := cy) (base := base) (st := st) (K := K) (L := L) (c := c) (r := r) (o := o) (z := z) th t1 hk_th hk_t1 hc3) (cwV 1 hts gX6_goodSpot_X6_isOutOfMonth rfl rfl rfl (by decide +kernel) ⟨Nat.le_of_ble_eq_true rfl, Nat.le_of_ble_eq_true rfl⟩) hG hC (zC.recv (ci := 6) (fs := _) hK hC (by rw [hk_th]; decide) (by rw [hk_th]; exact zc_6 cy _ _) rfl) rfl hl.1 rfl (lv_room (Nat.le_of_ble_eq_true rfl)) dX6_goodSpot_9 ⟨Nat.le_of_ble_eq_true rfl, Nat.le_of_ble_eq_true rfl⟩) hC (fun H locs hC => ?_)
    refine lv_if_ne (tgt := 23) hx hb dX6_goodSpot_12 (by decide) (fun h19 => ?_) (fun h19 => ?_)
    · have hf := zif_f hf h19
      refine lv_iconst (v := (-1)) hx hb dX6_goodSpot_23 (by decide) ?_
      exact z_iret hx hb hr hlocks hC hf dX6_goodSpot_24
    · have hf := zif_t hf h19
      refine lv_aload_n hx hb dX6_goodSpot_15 rfl (lv_at hl 0 rfl) ?_
      refine lv_aload_n hx hb dX6_goodSpot_16 rfl (lv_at hl 1 rfl) ?_
      obtain ⟨x6, hc5, hf⟩ := zb_inv hf
      refine z_ci (z_rV (As := [.ref t1]) (rest := []) ⟨hx, hb, hml, hown, hts⟩ (c_X6_isSecondCharity (l := l) (D := D) (cy := cy) (base := base) (st := st) (K := K) (L := L) (c := c) (r := r) (o := o) (z := z) th t1 hk_th hk_t1 hc5) (cwV 1 hts gX6_goodSpot_X6_isSecondCharity rfl rfl rfl (by decide +kernel) ⟨Nat.le_of_ble_eq_true rfl, Nat.le_of_ble_eq_true rfl⟩) hG hC (zC.recv (ci := 6) (fs := _) hK hC (by rw [hk_th]; decide) (by rw [hk_th]; exact zc_6 cy _ _) rfl) rfl hl.1 rfl (lv_room (Nat.le_of_ble_eq_true rfl)) dX6_goodSpot_17 ⟨Nat.le_of_ble_eq_true rfl, Nat.le_of_ble_eq_true rfl⟩) hC (fun H locs hC => ?_)
      refine lv_if_eq (tgt := 25) hx hb dX6_goodSpot_20 (by decide) (fun h18 => ?_) (fun h18 => ?_)
      · have hf := zif_t hf h18
        refine lv_iconst (v := 0) hx hb dX6_goodSpot_25 (by decide) ?_
        refine lv_istore_n (lv' := [(2, .int 0), (0, .ref th), (1, .ref t1)]) hx hb dX6_goodSpot_26 rfl hl (by decide) rfl (fun ls hl => ?_)
        exact L27 z _ _ _ 0 hC (lv_sub hl [1, 2, 0] rfl) hf
      · have hf := zif_f hf h18
        refine lv_iconst (v := (-1)) hx hb dX6_goodSpot_23 (by decide) ?_
        exact z_iret hx hb hr hlocks hC hf dX6_goodSpot_24
def f_X0_lay_7 (K : Nat → Nat) (z : Nat) (th : Nat) (p1 : Int32) : Nat → zS → Int32 → Option zS
  | 0, _, _ => none
  | n + 1, c9, v2 =>
    (if 200 ≤ v2 then some c9 else zn K (zr c9 0 th 0) 8 fun a2 => zx v2 200 <| zlet (zui c9 140 a2 (Int32.toNatClampNeg v2) 0) fun c3 => zlet (v2 + 1) fun x4 => f_X0_lay_7 K z th p1 n c3 x4)
def f_X0_lay (K : Nat → Nat) (z : Nat) (c : zS) (th : Nat) (p1 : Int32) : Option zS :=
  zlet (zui c 2 th 0 p1) fun c1 => f_X0_lay_7 K z th p1 z c1 0
set_option maxRecDepth 100000 in
set_option maxHeartbeats 4000000 in
theorem c_X0_lay {l : Launch} {D : va_G} {cy : Nat → ClassId} {base : Nat} {st : Nat → Nat} {K : Nat → Nat} {L : List Nat} {c r : zS} {o : Int64} {z : Nat} (th : Nat) (p1 : Int32) {cf : zS}  (hk_th : K th = 0) (hf : f_X0_lay K z c th p1 = some cf) : Met l yX0_lay wsX0_lay ({ frames := 0, cells := 0, slots := 0, locals := 0 }) (va_Pc [.ref th, .int p1] (zGW zts0 zns0 D cy base st K L (c, r, o))) (va_Qv (fun (_ : Unit) => True) (fun _ => zB D cy base K L (cf, r, o)) (zA base)) 0 0 (zA base) := by
  refine Met.ofW (cc := cX0_lay) (maxL := 3) (ret := none) (by decide) rfl ?_
  intro p e s m args below meth cd s₁ B hml hv
  obtain ⟨rfl, hG⟩ := hv
  have hx := B.exec
  have hb := B.bytes
  have hr := B.returns
  have hts := atoms_spec (ws := wsX0_lay) B.pre
  have hown : s.vm.findClass RX0 = some m.cls := findClass_of_methodNamed B.named
  have hlocks := B.notSynchronized
  have hC := hG.enter
  have hK := hG.2.2.2.1
  have hi0 : ∀ w ∈ wsX00, w ∈ wsX0_lay := by decide +kernel
  have w0 := hts (.fieldLink RX0 21 "MarketSquare$Row" "places" "I") (by decide +kernel)
  have w1 := hts (.fieldLink RX0 9 "MarketSquare$Row" "marks" "[I") (by decide +kernel)
  have hl := lv_entry ([.ref th, .int p1]) (n := 3) (Nat.le_of_ble_eq_true rfl)
  rw [lg_entry_eq]
  generalize (lg_sl ([.ref th, .int p1]) ++ List.replicate (3 - (lg_sl ([.ref th, .int p1])).length) Slot.unset).toArray = ls at hl ⊢
  have hl : lv_has ls 3 [(0, .ref th), (1, .int p1)] := hl
  have L7 : ∀ (n7 : Nat) (c9 : zS) (H : Heap) (locs : List Loc) (ls : Array Slot) (v2 : Int32), zC D cy base K L (c9, r, o) s.heap H locs → lv_has ls 3 [(0, .ref th), (1, .int p1), (2, .int v2)] → f_X0_lay_7 K z th p1 n7 c9 v2 = some cf → W p l e (headSpec wsX0_lay ({ frames := 0, cells := 0, slots := 0, locals := 0 })).room s m ([.ref th, .int p1] : List Value).toArray below meth cd H locs 0 0 (MQ below (va_Qv (fun (_ : Unit) => True) (fun _ => zB D cy base K L (cf, r, o)) (zA base)) ([.ref th, .int p1] : List Value).toArray s 0 0 (zA base)) (F0 m 7 ls []) := by
    intro n7
    induction n7 with
    | zero => intro c9 H locs ls v2 hC hl hf; rw [f_X0_lay_7] at hf; cases hf
    | succ n7 ih7 =>
      intro c9 H locs ls v2 hC hl hf
      rw [f_X0_lay_7] at hf
      refine lv_iload_n hx hb dX0_lay_7 rfl (lv_at hl 2 rfl) ?_
      refine lv_sipush (v := 200) hx hb dX0_lay_8 (by decide) ?_
      refine lv_icmp_ge (tgt := 27) hx hb dX0_lay_11 (by decide) (fun h5 => ?_) (fun h5 => ?_)
      · have hf := zif_t hf h5
        exact z_vretW hx hb hr hlocks hC hf dX0_lay_27
      · have hf := zif_f hf h5
        refine lv_aload_n hx hb dX0_lay_14 rfl (lv_at hl 0 rfl) ?_
        refine zg_0_0 hx hb hts hi0 hown hK hC hk_th w1 dX0_lay_15 ?_
        obtain ⟨a2, ea2, hk_a2, hf⟩ := zn_inv hf
        refine z_ref ea2 ?_
        refine lv_iload_n hx hb dX0_lay_18 rfl (lv_at hl 2 rfl) ?_
        refine lv_iconst (v := 0) hx hb dX0_lay_19 (by decide) ?_
        obtain ⟨hix, hf⟩ := zx_inv hf
        obtain ⟨c3, ec3, hf⟩ := zlet_inv hf
        refine xp_8 hx hb hK hC hk_a2 hix ec3 dX0_lay_20 (fun H locs hC => ?_)
        obtain ⟨x4, ex4, hf⟩ := zlet_inv hf
        refine lv_iinc (v := x4) (lv' := [(2, .int x4), (0, .ref th), (1, .int p1)]) hx hb dX0_lay_21 hl (k := 2) rfl (by rw [ex4]; rfl) (by decide) rfl (fun ls hl => ?_)
        refine lv_goto (tgt := 7) hx hb dX0_lay_24 (by decide) ?_
        exact ih7 _ _ _ _ x4 hC (lv_sub hl [1, 2, 0] rfl) hf
  unfold f_X0_lay at hf
  refine lv_aload_n hx hb dX0_lay_0 rfl (lv_at hl 0 rfl) ?_
  refine lv_iload_n hx hb dX0_lay_1 rfl (lv_at hl 1 rfl) ?_
  obtain ⟨c1, ec1, hf⟩ := zlet_inv hf
  refine zp_0_2 hx hb hts hi0 hown hK hC hk_th w0 ec1 dX0_lay_2 (fun H locs hC => ?_)
  refine lv_iconst (v := 0) hx hb dX0_lay_5 (by decide) ?_
  refine lv_istore_n (lv' := [(2, .int 0), (0, .ref th), (1, .int p1)]) hx hb dX0_lay_6 rfl hl (by decide) rfl (fun ls hl => ?_)
  exact L7 z _ _ _ _ 0 hC (lv_sub hl [1, 2, 0] rfl) hf
def f_X0_setMark_24 (K : Nat → Nat) (z : Nat) (th : Nat) (p1 : Int32) (p2 : Int32) (p3 : Int32) (c9 : zS) (s0 : Int32) : Option (Int32 × zS) :=
  (if s0 = p3 then some (0, c9) else zn K (zr c9 0 th 0) 8 fun a4 => zx p1 200 <| zx p1 200 <| zlet (zui c9 140 a4 (Int32.toNatClampNeg p1) ((zi c9 140 a4 (Int32.toNatClampNeg p1)) ^^^ p2)) fun c5 => some (1, c5))
def f_X0_setMark (K : Nat → Nat) (z : Nat) (c : zS) (th : Nat) (p1 : Int32) (p2 : Int32) (p3 : Int32) : Option (Int32 × zS) :=
  zb (f_X0_has K z c th p1) fun x2 => (if x2 = 0 then some (0, c) else zn K (zr c 0 th 0) 8 fun a3 => zx p1 200 <| (if ((zi c 140 a3 (Int32.toNatClampNeg p1)) &&& p2) = 0 then f_X0_setMark_24 K z th p1 p2 p3 c 0 else f_X0_setMark_24 K z th p1 p2 p3 c 1))
set_option maxRecDepth 100000 in
set_option maxHeartbeats 4000000 in
theorem c_X0_setMark {l : Launch} {D : va_G} {cy : Nat → ClassId} {base : Nat} {st : Nat → Nat} {K : Nat → Nat} {L : List Nat} {c r : zS} {o : Int64} {z : Nat} (th : Nat) (p1 : Int32) (p2 : Int32) (p3 : Int32) {rv : Int32} {cf : zS}  (hk_th : K th = 0) (hf : f_X0_setMark K z c th p1 p2 p3 = some (rv, cf)) : Met l yX0_setMark wsX0_setMark ({ frames := 1, cells := 0, slots := 0, locals := 21 }) (va_Pc [.ref th, .int p1, .int p2, .int p3] (zGW zts0 zns0 D cy base st K L (c, r, o))) (va_Qi (fun (rr : Int32) (_ : Unit) => rr = rv) (fun _ => zB D cy base K L (cf, r, o)) (zA base)) 0 0 (zA base) := by
  refine Met.ofW (cc := cX0_setMark) (maxL := 4) (ret := (some .boolean)) (by decide) rfl ?_
  intro p e s m args below meth cd s₁ B hml hv
  obtain ⟨rfl, hG⟩ := hv
  have hx := B.exec
  have hb := B.bytes
  have hr := B.returns
  have hts := atoms_spec (ws := wsX0_setMark) B.pre
  have hown : s.vm.findClass RX0 = some m.cls := findClass_of_methodNamed B.named
  have hlocks := B.notSynchronized
  have hC := hG.enter
  have hK := hG.2.2.2.1
  have hi0 : ∀ w ∈ wsX00, w ∈ wsX0_setMark := by decide +kernel
  have w0 := hts (.fieldLink RX0 9 "MarketSquare$Row" "marks" "[I") (by decide +kernel)
  have hl := lv_entry ([.ref th, .int p1, .int p2, .int p3]) (n := 4) (Nat.le_of_ble_eq_true rfl)
  rw [lg_entry_eq]
  generalize (lg_sl ([.ref th, .int p1, .int p2, .int p3]) ++ List.replicate (4 - (lg_sl ([.ref th, .int p1, .int p2, .int p3])).length) Slot.unset).toArray = ls at hl ⊢
  have hl : lv_has ls 4 [(0, .ref th), (1, .int p1), (2, .int p2), (3, .int p3)] := hl
  have J24 : ∀ (c9 : zS) (H : Heap) (locs : List Loc) (ls : Array Slot) (s0 : Int32), zC D cy base K L (c9, r, o) s.heap H locs → lv_has ls 4 [(0, .ref th), (1, .int p1), (2, .int p2), (3, .int p3)] → f_X0_setMark_24 K z th p1 p2 p3 c9 s0 = some (rv, cf) → W p l e (headSpec wsX0_setMark ({ frames := 1, cells := 0, slots := 0, locals := 21 })).room s m ([.ref th, .int p1, .int p2, .int p3] : List Value).toArray below meth cd H locs 0 0 (MQ below (va_Qi (fun (rr : Int32) (_ : Unit) => rr = rv) (fun _ => zB D cy base K L (cf, r, o)) (zA base)) ([.ref th, .int p1, .int p2, .int p3] : List Value).toArray s 0 0 (zA base)) (F0 m 24 ls [.int s0]) := by
    intro c9 H locs ls s0 hC hl hf
    unfold f_X0_setMark_24 at hf
    refine lv_iload_n hx hb dX0_setMark_24 rfl (lv_at hl 3 rfl) ?_
    refine lv_icmp_ne (tgt := 30) hx hb dX0_setMark_25 (by decide) (fun h6 => ?_) (fun h6 => ?_)
    · have hf := zif_f hf h6
      refine lv_aload_n hx hb dX0_setMark_30 rfl (lv_at hl 0 rfl) ?_
      refine zg_0_0 hx hb hts hi0 hown hK hC hk_th w0 dX0_setMark_31 ?_
      obtain ⟨a4, ea4, hk_a4, hf⟩ := zn_inv hf
      refine z_ref ea4 ?_
      refine lv_iload_n hx hb dX0_setMark_34 rfl (lv_at hl 1 rfl) ?_
      refine lv_dup2_11 hx hb dX0_setMark_35 rfl rfl ?_
      obtain ⟨hix, hf⟩ := zx_inv hf
      refine xg_8 hx hb hK hC hk_a4 hix dX0_setMark_36 ?_
      refine lv_iload_n hx hb dX0_setMark_37 rfl (lv_at hl 2 rfl) ?_
      refine lv_ixor hx hb dX0_setMark_38 ?_
      obtain ⟨hix, hf⟩ := zx_inv hf
      obtain ⟨c5, ec5, hf⟩ := zlet_inv hf
      refine xp_8 hx hb hK hC hk_a4 hix ec5 dX0_setMark_39 (fun H locs hC => ?_)
      refine lv_iconst (v := 1) hx hb dX0_setMark_40 (by decide) ?_
      exact z_zretW hx hb hr hlocks hC (Or.inr rfl) hf dX0_setMark_41
    · have hf := zif_t hf h6
      refine lv_iconst (v := 0) hx hb dX0_setMark_28 (by decide) ?_
      exact z_zretW hx hb hr hlocks hC (Or.inl rfl) hf dX0_setMark_29
  unfold f_X0_setMark at hf
  refine lv_aload_n hx hb dX0_setMark_0 rfl (lv_at hl 0 rfl) ?_
  refine lv_iload_n hx hb dX0_setMark_1 rfl (lv_at hl 1 rfl) ?_
  obtain ⟨x2, hc1, hf⟩ := zb_inv hf
  refine z_ci (z_rV (As := [.int p1]) (rest := []) ⟨hx, hb, hml, hown, hts⟩ (c_X0_has (l := l) (D := D) (cy := cy) (base := base) (st := st) (K := K) (L := L) (c := c) (r := r) (o := o) (z := z) th p1 hk_th hc1) (cwV 1 hts gX0_setMark_X0_has rfl rfl rfl (by decide +kernel) ⟨Nat.le_of_ble_eq_true rfl, Nat.le_of_ble_eq_true rfl⟩) hG hC (zC.recv (ci := 0) (fs := _) hK hC (by rw [hk_th]; decide) (by rw [hk_th]; exact zc_0 cy _ _) rfl) rfl hl.1 rfl (lv_room (Nat.le_of_ble_eq_true rfl)) dX0_setMark_2 ⟨Nat.le_of_ble_eq_true rfl, Nat.le_of_ble_eq_true rfl⟩) hC (fun H locs hC => ?_)
  refine lv_if_eq (tgt := 28) hx hb dX0_setMark_5 (by decide) (fun h8 => ?_) (fun h8 => ?_)
  · have hf := zif_t hf h8
    refine lv_iconst (v := 0) hx hb dX0_setMark_28 (by decide) ?_
    exact z_zretW hx hb hr hlocks hC (Or.inl rfl) hf dX0_setMark_29
  · have hf := zif_f hf h8
    refine lv_aload_n hx hb dX0_setMark_8 rfl (lv_at hl 0 rfl) ?_
    refine zg_0_0 hx hb hts hi0 hown hK hC hk_th w0 dX0_setMark_9 ?_
    obtain ⟨a3, ea3, hk_a3, hf⟩ := zn_inv hf
    refine z_ref ea3 ?_
    refine lv_iload_n hx hb dX0_setMark_12 rfl (lv_at hl 1 rfl) ?_
    obtain ⟨hix, hf⟩ := zx_inv hf
    refine xg_8 hx hb hK hC hk_a3 hix dX0_setMark_13 ?_
    refine lv_iload_n hx hb dX0_setMark_14 rfl (lv_at hl 2 rfl) ?_
    refine lv_iand hx hb dX0_setMark_15 ?_
    refine lv_if_eq (tgt := 23) hx hb dX0_setMark_16 (by decide) (fun h7 => ?_) (fun h7 => ?_)
    · have hf := zif_t hf h7
      refine lv_iconst (v := 0) hx hb dX0_setMark_23 (by decide) ?_
      exact J24 _ _ _ _ 0 hC (lv_sub hl [0, 1, 2, 3] rfl) hf
    · have hf := zif_f hf h7
      refine lv_iconst (v := 1) hx hb dX0_setMark_19 (by decide) ?_
      refine lv_goto (tgt := 24) hx hb dX0_setMark_20 (by decide) ?_
      exact J24 _ _ _ _ 1 hC (lv_sub hl [0, 1, 2, 3] rfl) hf
def f_X3_setPaired (K : Nat → Nat) (z : Nat) (c : zS) (th : Nat) (t1 : Nat) (p2 : Int32) : Option zS :=
  zlet ((1 : Int32) <<< ((zi c 60 t1 0) &&& 31)) fun x1 => (if p2 = 0 then zlet (zui c 64 th 0 ((zi c 64 th 0) &&& (x1 ^^^ (-1)))) fun c2 => some c2 else zlet (zui c 64 th 0 ((zi c 64 th 0) ||| x1)) fun c3 => some c3)
set_option maxRecDepth 100000 in
set_option maxHeartbeats 4000000 in
theorem c_X3_setPaired {l : Launch} {D : va_G} {cy : Nat → ClassId} {base : Nat} {st : Nat → Nat} {K : Nat → Nat} {L : List Nat} {c r : zS} {o : Int64} {z : Nat} (th : Nat) (t1 : Nat) (p2 : Int32) {cf : zS}  (hk_th : K th = 3) (hk_t1 : K t1 = 3) (hf : f_X3_setPaired K z c th t1 p2 = some cf) : Met l yX3_setPaired wsX3_setPaired ({ frames := 0, cells := 0, slots := 0, locals := 0 }) (va_Pc [.ref th, .ref t1, .int p2] (zGW zts0 zns0 D cy base st K L (c, r, o))) (va_Qv (fun (_ : Unit) => True) (fun _ => zB D cy base K L (cf, r, o)) (zA base)) 0 0 (zA base) := by
  refine Met.ofW (cc := cX3_setPaired) (maxL := 4) (ret := none) (by decide) rfl ?_
  intro p e s m args below meth cd s₁ B hml hv
  obtain ⟨rfl, hG⟩ := hv
  have hx := B.exec
  have hb := B.bytes
  have hr := B.returns
  have hts := atoms_spec (ws := wsX3_setPaired) B.pre
  have hown : s.vm.findClass RX3 = some m.cls := findClass_of_methodNamed B.named
  have hlocks := B.notSynchronized
  have hC := hG.enter
  have hK := hG.2.2.2.1
  have hi3 : ∀ w ∈ wsX30, w ∈ wsX3_setPaired := by decide +kernel
  have w0 := hts (.fieldLink RX3 7 "MarketSquare$Trade" "number" "I") (by decide +kernel)
  have w1 := hts (.fieldLink RX3 23 "MarketSquare$Trade" "pairs" "I") (by decide +kernel)
  have hl := lv_entry ([.ref th, .ref t1, .int p2]) (n := 4) (Nat.le_of_ble_eq_true rfl)
  rw [lg_entry_eq]
  generalize (lg_sl ([.ref th, .ref t1, .int p2]) ++ List.replicate (4 - (lg_sl ([.ref th, .ref t1, .int p2])).length) Slot.unset).toArray = ls at hl ⊢
  have hl : lv_has ls 4 [(0, .ref th), (1, .ref t1), (2, .int p2)] := hl
  unfold f_X3_setPaired at hf
  refine lv_iconst (v := 1) hx hb dX3_setPaired_0 (by decide) ?_
  refine lv_aload_n hx hb dX3_setPaired_1 rfl (lv_at hl 1 rfl) ?_
  refine zg_3_0 hx hb hts hi3 hown hK hC hk_t1 w0 dX3_setPaired_2 ?_
  refine lv_ishl hx hb dX3_setPaired_5 ?_
  obtain ⟨x1, ex1, hf⟩ := zlet_inv hf
  refine z_name ex1 ?_
  refine lv_istore_n (lv' := [(3, .int x1), (0, .ref th), (1, .ref t1), (2, .int p2)]) hx hb dX3_setPaired_6 rfl hl (by decide) rfl (fun ls hl => ?_)
  refine lv_aload_n hx hb dX3_setPaired_7 rfl (lv_at hl 1 rfl) ?_
  refine lv_iload_n hx hb dX3_setPaired_8 rfl (lv_at hl 3 rfl) ?_
  refine lv_if_eq (tgt := 21) hx hb dX3_setPaired_9 (by decide) (fun h4 => ?_) (fun h4 => ?_)
  · have hf := zif_t hf h4
    refine lv_aload_n hx hb dX3_setPaired_21 rfl (lv_at hl 1 rfl) ?_
    refine zg_3_4 hx hb hts hi3 hown hK hC hk_th w1 dX3_setPaired_22 ?_
    refine lv_iload_n hx hb dX3_setPaired_25 rfl (lv_at hl 0 rfl) ?_
    refine lv_iconst (v := (-1)) hx hb dX3_setPaired_26 (by decide) ?_
    refine lv_ixor hx hb dX3_setPaired_27 ?_
    refine lv_iand hx hb dX3_setPaired_28 ?_
    obtain ⟨c2, ec2, hf⟩ := zlet_inv hf
    refine zp_3_4 hx hb hts hi3 hown hK hC hk_th w1 ec2 dX3_setPaired_29 (fun H locs hC => ?_)
    exact z_vretW hx hb hr hlocks hC hf dX3_setPaired_32
  · have hf := zif_f hf h4
    refine lv_aload_n hx hb dX3_setPaired_12 rfl (lv_at hl 1 rfl) ?_
    refine zg_3_4 hx hb hts hi3 hown hK hC hk_th w1 dX3_setPaired_13 ?_
    refine lv_iload_n hx hb dX3_setPaired_16 rfl (lv_at hl 0 rfl) ?_
    refine lv_ior hx hb dX3_setPaired_17 ?_
    refine lv_goto (tgt := 29) hx hb dX3_setPaired_18 (by decide) ?_
    obtain ⟨c3, ec3, hf⟩ := zlet_inv hf
    refine zp_3_4 hx hb hts hi3 hown hK hC hk_th w1 ec3 dX3_setPaired_29 (fun H locs hC => ?_)
    exact z_vretW hx hb hr hlocks hC hf dX3_setPaired_32
def f_X5_add (K : Nat → Nat) (z : Nat) (c : zS) (th : Nat) (p1 : Int32) (p2 : Int32) : Option (Int32 × zS) :=
  (if (zi c 102 th 0) < 12 then zn K (zr c 100 th 0) 9 fun a1 => zx (zi c 102 th 0) 12 <| zlet (zui c 141 a1 (Int32.toNatClampNeg (zi c 102 th 0)) p1) fun c2 => zn K (zr c2 101 th 0) 10 fun a3 => zx (zi c2 102 th 0) 12 <| zlet (zui c2 142 a3 (Int32.toNatClampNeg (zi c2 102 th 0)) p2) fun c4 => zlet (zui c4 102 th 0 ((zi c4 102 th 0) + 1)) fun c5 => some ((zi c5 102 th 0), c5) else some ((-1), c))
set_option maxRecDepth 100000 in
set_option maxHeartbeats 4000000 in
theorem c_X5_add {l : Launch} {D : va_G} {cy : Nat → ClassId} {base : Nat} {st : Nat → Nat} {K : Nat → Nat} {L : List Nat} {c r : zS} {o : Int64} {z : Nat} (th : Nat) (p1 : Int32) (p2 : Int32) {rv : Int32} {cf : zS}  (hk_th : K th = 5) (hf : f_X5_add K z c th p1 p2 = some (rv, cf)) : Met l yX5_add wsX5_add ({ frames := 0, cells := 0, slots := 0, locals := 0 }) (va_Pc [.ref th, .int p1, .int p2] (zGW zts0 zns0 D cy base st K L (c, r, o))) (va_Qi (fun (rr : Int32) (_ : Unit) => rr = rv) (fun _ => zB D cy base K L (cf, r, o)) (zA base)) 0 0 (zA base) := by
  refine Met.ofW (cc := cX5_add) (maxL := 3) (ret := (some .int)) (by decide) rfl ?_
  intro p e s m args below meth cd s₁ B hml hv
  obtain ⟨rfl, hG⟩ := hv
  have hx := B.exec
  have hb := B.bytes
  have hr := B.returns
  have hts := atoms_spec (ws := wsX5_add) B.pre
  have hown : s.vm.findClass RX5 = some m.cls := findClass_of_methodNamed B.named
  have hlocks := B.notSynchronized
  have hC := hG.enter
  have hK := hG.2.2.2.1
  have hi5 : ∀ w ∈ wsX50, w ∈ wsX5_add := by decide +kernel
  have w0 := hts (.fieldLink RX5 18 "MarketSquare$Wish" "length" "I") (by decide +kernel)
  have w1 := hts (.fieldLink RX5 9 "MarketSquare$Wish" "rows" "[I") (by decide +kernel)
  have w2 := hts (.fieldLink RX5 15 "MarketSquare$Wish" "places" "[I") (by decide +kernel)
  have hl := lv_entry ([.ref th, .int p1, .int p2]) (n := 3) (Nat.le_of_ble_eq_true rfl)
  rw [lg_entry_eq]
  generalize (lg_sl ([.ref th, .int p1, .int p2]) ++ List.replicate (3 - (lg_sl ([.ref th, .int p1, .int p2])).length) Slot.unset).toArray = ls at hl ⊢
  have hl : lv_has ls 3 [(0, .ref th), (1, .int p1), (2, .int p2)] := hl
  unfold f_X5_add at hf
  refine lv_aload_n hx hb dX5_add_0 rfl (lv_at hl 0 rfl) ?_
  refine zg_5_2 hx hb hts hi5 hown hK hC hk_th w0 dX5_add_1 ?_
  refine lv_bipush (v := 12) hx hb dX5_add_4 (by decide) ?_
  refine lv_icmp_lt (tgt := 11) hx hb dX5_add_6 (by decide) (fun h6 => ?_) (fun h6 => ?_)
  · have hf := zif_t hf h6
    refine lv_aload_n hx hb dX5_add_11 rfl (lv_at hl 0 rfl) ?_
    refine zg_5_0 hx hb hts hi5 hown hK hC hk_th w1 dX5_add_12 ?_
    obtain ⟨a1, ea1, hk_a1, hf⟩ := zn_inv hf
    refine z_ref ea1 ?_
    refine lv_aload_n hx hb dX5_add_15 rfl (lv_at hl 0 rfl) ?_
    refine zg_5_2 hx hb hts hi5 hown hK hC hk_th w0 dX5_add_16 ?_
    refine lv_iload_n hx hb dX5_add_19 rfl (lv_at hl 1 rfl) ?_
    obtain ⟨hix, hf⟩ := zx_inv hf
    obtain ⟨c2, ec2, hf⟩ := zlet_inv hf
    refine xp_9 hx hb hK hC hk_a1 hix ec2 dX5_add_20 (fun H locs hC => ?_)
    refine lv_aload_n hx hb dX5_add_21 rfl (lv_at hl 0 rfl) ?_
    refine zg_5_1 hx hb hts hi5 hown hK hC hk_th w2 dX5_add_22 ?_
    obtain ⟨a3, ea3, hk_a3, hf⟩ := zn_inv hf
    refine z_ref ea3 ?_
    refine lv_aload_n hx hb dX5_add_25 rfl (lv_at hl 0 rfl) ?_
    refine zg_5_2 hx hb hts hi5 hown hK hC hk_th w0 dX5_add_26 ?_
    refine lv_iload_n hx hb dX5_add_29 rfl (lv_at hl 2 rfl) ?_
    obtain ⟨hix, hf⟩ := zx_inv hf
    obtain ⟨c4, ec4, hf⟩ := zlet_inv hf
    refine xp_10 hx hb hK hC hk_a3 hix ec4 dX5_add_30 (fun H locs hC => ?_)
    refine lv_aload_n hx hb dX5_add_31 rfl (lv_at hl 0 rfl) ?_
    refine lv_dup hx hb dX5_add_32 rfl ?_
    refine zg_5_2 hx hb hts hi5 hown hK hC hk_th w0 dX5_add_33 ?_
    refine lv_iconst (v := 1) hx hb dX5_add_36 (by decide) ?_
    refine lv_iadd hx hb dX5_add_37 ?_
    obtain ⟨c5, ec5, hf⟩ := zlet_inv hf
    refine zp_5_2 hx hb hts hi5 hown hK hC hk_th w0 ec5 dX5_add_38 (fun H locs hC => ?_)
    refine lv_aload_n hx hb dX5_add_41 rfl (lv_at hl 0 rfl) ?_
    refine zg_5_2 hx hb hts hi5 hown hK hC hk_th w0 dX5_add_42 ?_
    exact z_iretW hx hb hr hlocks hC hf dX5_add_45
  · have hf := zif_f hf h6
    refine lv_iconst (v := (-1)) hx hb dX5_add_9 (by decide) ?_
    exact z_iretW hx hb hr hlocks hC hf dX5_add_10
def f_X5_empty (K : Nat → Nat) (z : Nat) (c : zS) (th : Nat) (p1 : Int32) : Option zS :=
  zlet (zui c 102 th 0 0) fun c1 => zz p1 <| zlet (zui c1 103 th 0 p1) fun c3 => some c3
set_option maxRecDepth 100000 in
set_option maxHeartbeats 4000000 in
theorem c_X5_empty {l : Launch} {D : va_G} {cy : Nat → ClassId} {base : Nat} {st : Nat → Nat} {K : Nat → Nat} {L : List Nat} {c r : zS} {o : Int64} {z : Nat} (th : Nat) (p1 : Int32) {cf : zS}  (hk_th : K th = 5) (hf : f_X5_empty K z c th p1 = some cf) : Met l yX5_empty wsX5_empty ({ frames := 0, cells := 0, slots := 0, locals := 0 }) (va_Pc [.ref th, .int p1] (zGW zts0 zns0 D cy base st K L (c, r, o))) (va_Qv (fun (_ : Unit) => True) (fun _ => zB D cy base K L (cf, r, o)) (zA base)) 0 0 (zA base) := by
  refine Met.ofW (cc := cX5_empty) (maxL := 2) (ret := none) (by decide) rfl ?_
  intro p e s m args below meth cd s₁ B hml hv
  obtain ⟨rfl, hG⟩ := hv
  have hx := B.exec
  have hb := B.bytes
  have hr := B.returns
  have hts := atoms_spec (ws := wsX5_empty) B.pre
  have hown : s.vm.findClass RX5 = some m.cls := findClass_of_methodNamed B.named
  have hlocks := B.notSynchronized
  have hC := hG.enter
  have hK := hG.2.2.2.1
  have hi5 : ∀ w ∈ wsX50, w ∈ wsX5_empty := by decide +kernel
  have w0 := hts (.fieldLink RX5 18 "MarketSquare$Wish" "length" "I") (by decide +kernel)
  have w1 := hts (.fieldLink RX5 22 "MarketSquare$Wish" "any" "Z") (by decide +kernel)
  have hl := lv_entry ([.ref th, .int p1]) (n := 2) (Nat.le_of_ble_eq_true rfl)
  rw [lg_entry_eq]
  generalize (lg_sl ([.ref th, .int p1]) ++ List.replicate (2 - (lg_sl ([.ref th, .int p1])).length) Slot.unset).toArray = ls at hl ⊢
  have hl : lv_has ls 2 [(0, .ref th), (1, .int p1)] := hl
  unfold f_X5_empty at hf
  refine lv_aload_n hx hb dX5_empty_0 rfl (lv_at hl 0 rfl) ?_
  refine lv_iconst (v := 0) hx hb dX5_empty_1 (by decide) ?_
  obtain ⟨c1, ec1, hf⟩ := zlet_inv hf
  refine zp_5_2 hx hb hts hi5 hown hK hC hk_th w0 ec1 dX5_empty_2 (fun H locs hC => ?_)
  refine lv_aload_n hx hb dX5_empty_5 rfl (lv_at hl 0 rfl) ?_
  refine lv_iload_n hx hb dX5_empty_6 rfl (lv_at hl 1 rfl) ?_
  obtain ⟨hz2, hf⟩ := zz_inv hf
  obtain ⟨c3, ec3, hf⟩ := zlet_inv hf
  refine zp_5_3 hx hb hts hi5 hown hK hC hk_th w1 hz2 ec3 dX5_empty_7 (fun H locs hC => ?_)
  exact z_vretW hx hb hr hlocks hC hf dX5_empty_10
def f_X6_isAhead (K : Nat → Nat) (z : Nat) (c : zS) (t1 : Nat) (t2 : Nat) : Option Int32 :=
  zn K (zr c 85 t1 0) 2 fun a1 => zn K (zr c 85 t2 0) 2 fun a2 => (if (zi c 44 a1 0) = (zi c 44 a2 0) then (if (zi c 44 a1 0) = 0 then zb (f_X6_isAheadUnslighted K z c t1 t2) fun x4 => zz x4 <| some x4 else (if (zi c 87 t2 0) ≤ (zi c 87 t1 0) then some 0 else some 1)) else zz (zi c 44 a1 0) <| some (zi c 44 a1 0))
set_option maxRecDepth 100000 in
set_option maxHeartbeats 4000000 in
theorem c_X6_isAhead {l : Launch} {D : va_G} {cy : Nat → ClassId} {base : Nat} {st : Nat → Nat} {K : Nat → Nat} {L : List Nat} {c r : zS} {o : Int64} {z : Nat} (t1 : Nat) (t2 : Nat) {rv : Int32}  (hk_t1 : K t1 = 4) (hk_t2 : K t2 = 4) (hf : f_X6_isAhead K z c t1 t2 = some rv) : Met l yX6_isAhead wsX6_isAhead ({ frames := 2, cells := 0, slots := 0, locals := 43 }) (va_Pc [.ref t1, .ref t2] (zGW zts0 zns0 D cy base st K L (c, r, o))) (va_Qi (fun (rr : Int32) (_ : Unit) => rr = rv) (fun _ => zB D cy base K L (c, r, o)) (zA base)) 0 0 (zA base) := by
  refine Met.ofW (cc := cX6_isAhead) (maxL := 2) (ret := (some .boolean)) (by decide) rfl ?_
  intro p e s m args below meth cd s₁ B hml hv
  obtain ⟨rfl, hG⟩ := hv
  have hx := B.exec
  have hb := B.bytes
  have hr := B.returns
  have hts := atoms_spec (ws := wsX6_isAhead) B.pre
  have hown : s.vm.findClass RX6 = some m.cls := findClass_of_methodNamed B.named
  have hlocks := B.notSynchronized
  have hC := hG.enter
  have hK := hG.2.2.2.1
  have hi2 : ∀ w ∈ wsX20, w ∈ wsX6_isAhead := by decide +kernel
  have hi4 : ∀ w ∈ wsX40, w ∈ wsX6_isAhead := by decide +kernel
  have w0 := hts (.fieldLink RX6 168 "MarketSquare$Trader" "today" "LMarketSquare$Today;") (by decide +kernel)
  have w1 := hts (.fieldLink RX6 273 "MarketSquare$Today" "slighted" "Z") (by decide +kernel)
  have w2 := hts (.fieldLink RX6 263 "MarketSquare$Trader" "rank" "I") (by decide +kernel)
  have hl := lv_entry ([.ref t1, .ref t2]) (n := 2) (Nat.le_of_ble_eq_true rfl)
  rw [lg_entry_eq]
  generalize (lg_sl ([.ref t1, .ref t2]) ++ List.replicate (2 - (lg_sl ([.ref t1, .ref t2])).length) Slot.unset).toArray = ls at hl ⊢
  have hl : lv_has ls 2 [(0, .ref t1), (1, .ref t2)] := hl
  unfold f_X6_isAhead at hf
  refine lv_aload_n hx hb dX6_isAhead_0 rfl (lv_at hl 0 rfl) ?_
  refine zg_4_5 hx hb hts hi4 hown hK hC hk_t1 w0 dX6_isAhead_1 ?_
  obtain ⟨a1, ea1, hk_a1, hf⟩ := zn_inv hf
  refine z_ref ea1 ?_
  refine zg_2_4 hx hb hts hi2 hown hK hC hk_a1 w1 dX6_isAhead_4 ?_
  refine lv_aload_n hx hb dX6_isAhead_7 rfl (lv_at hl 1 rfl) ?_
  refine zg_4_5 hx hb hts hi4 hown hK hC hk_t2 w0 dX6_isAhead_8 ?_
  obtain ⟨a2, ea2, hk_a2, hf⟩ := zn_inv hf
  refine z_ref ea2 ?_
  refine zg_2_4 hx hb hts hi2 hown hK hC hk_a2 w1 dX6_isAhead_11 ?_
  refine lv_icmp_eq (tgt := 25) hx hb dX6_isAhead_14 (by decide) (fun h9 => ?_) (fun h9 => ?_)
  · have hf := zif_t hf h9
    refine lv_aload_n hx hb dX6_isAhead_25 rfl (lv_at hl 0 rfl) ?_
    refine zg_4_5 hx hb hts hi4 hown hK hC hk_t1 w0 dX6_isAhead_26 ?_
    refine z_ref ea1 ?_
    refine zg_2_4 hx hb hts hi2 hown hK hC hk_a1 w1 dX6_isAhead_29 ?_
    refine lv_if_eq (tgt := 54) hx hb dX6_isAhead_32 (by decide) (fun h7 => ?_) (fun h7 => ?_)
    · have hf := zif_t hf h7
      refine lv_aload_n hx hb dX6_isAhead_54 rfl (lv_at hl 0 rfl) ?_
      refine lv_aload_n hx hb dX6_isAhead_55 rfl (lv_at hl 1 rfl) ?_
      obtain ⟨x4, hc3, hf⟩ := zb_inv hf
      refine z_ci (z_rS (b := 0) (As := [.ref t1, .ref t2]) (rest := []) ⟨hx, hb, hml, hown, hts⟩ (c_X6_isAheadUnslighted (l := l) (D := D) (cy := cy) (base := base) (st := st) (K := K) (L := L) (c := c) (r := r) (o := o) (z := z) t1 t2 hk_t1 hk_t2 hc3) (va_cwS 2 hts gX6_isAhead_X6_isAheadUnslighted rfl rfl rfl (by decide +kernel) ⟨Nat.le_of_ble_eq_true rfl, Nat.le_of_ble_eq_true rfl⟩) hG hC rfl hl.1 rfl (lv_room (Nat.le_of_ble_eq_true rfl)) dX6_isAhead_56 ⟨Nat.le_of_ble_eq_true rfl, Nat.le_of_ble_eq_true rfl⟩) hC (fun H locs hC => ?_)
      obtain ⟨hz5, hf⟩ := zz_inv hf
      exact z_zret hx hb hr hlocks hC hz5 hf dX6_isAhead_59
    · have hf := zif_f hf h7
      refine lv_aload_n hx hb dX6_isAhead_35 rfl (lv_at hl 0 rfl) ?_
      refine zg_4_7 hx hb hts hi4 hown hK hC hk_t1 w2 dX6_isAhead_36 ?_
      refine lv_aload_n hx hb dX6_isAhead_39 rfl (lv_at hl 1 rfl) ?_
      refine zg_4_7 hx hb hts hi4 hown hK hC hk_t2 w2 dX6_isAhead_40 ?_
      refine lv_icmp_ge (tgt := 50) hx hb dX6_isAhead_43 (by decide) (fun h6 => ?_) (fun h6 => ?_)
      · have hf := zif_t hf h6
        refine lv_iconst (v := 0) hx hb dX6_isAhead_50 (by decide) ?_
        refine lv_goto (tgt := 59) hx hb dX6_isAhead_51 (by decide) ?_
        exact z_zret hx hb hr hlocks hC (Or.inl rfl) hf dX6_isAhead_59
      · have hf := zif_f hf h6
        refine lv_iconst (v := 1) hx hb dX6_isAhead_46 (by decide) ?_
        refine lv_goto (tgt := 59) hx hb dX6_isAhead_47 (by decide) ?_
        exact z_zret hx hb hr hlocks hC (Or.inr rfl) hf dX6_isAhead_59
  · have hf := zif_f hf h9
    refine lv_aload_n hx hb dX6_isAhead_17 rfl (lv_at hl 0 rfl) ?_
    refine zg_4_5 hx hb hts hi4 hown hK hC hk_t1 w0 dX6_isAhead_18 ?_
    refine z_ref ea1 ?_
    refine zg_2_4 hx hb hts hi2 hown hK hC hk_a1 w1 dX6_isAhead_21 ?_
    obtain ⟨hz8, hf⟩ := zz_inv hf
    exact z_zret hx hb hr hlocks hC hz8 hf dX6_isAhead_24
def f_X6_insert_2 (K : Nat → Nat) (z : Nat) (th : Nat) (t1 : Nat) (p2 : Int32) : Nat → zS → Int32 → Option zS
  | 0, _, _ => none
  | n + 1, c9, v3 =>
    (if v3 ≤ 0 then zn K (zr c9 124 th 0) 15 fun a1 => zx v3 200 <| zlet (zur c9 147 a1 (Int32.toNatClampNeg v3) (some t1)) fun c2 => some c2 else zn K (zr c9 124 th 0) 15 fun a3 => zx (v3 - 1) 200 <| zn K (zr c9 147 a3 (Int32.toNatClampNeg (v3 - 1))) 4 fun a4 => zb (f_X6_isAhead K z c9 t1 a4) fun x6 => (if x6 = 0 then zx v3 200 <| zlet (zur c9 147 a3 (Int32.toNatClampNeg v3) (some t1)) fun c7 => some c7 else zx (v3 - 1) 200 <| zn K (zr c9 147 a3 (Int32.toNatClampNeg (v3 - 1))) 4 fun a8 => zx v3 200 <| zlet (zur c9 147 a3 (Int32.toNatClampNeg v3) (some a8)) fun c9 => zlet (v3 + (-1)) fun x10 => f_X6_insert_2 K z th t1 p2 n c9 x10))
def f_X6_insert (K : Nat → Nat) (z : Nat) (c : zS) (th : Nat) (t1 : Nat) (p2 : Int32) : Option zS :=
  f_X6_insert_2 K z th t1 p2 z c p2
set_option maxRecDepth 100000 in
set_option maxHeartbeats 4000000 in
theorem c_X6_insert {l : Launch} {D : va_G} {cy : Nat → ClassId} {base : Nat} {st : Nat → Nat} {K : Nat → Nat} {L : List Nat} {c r : zS} {o : Int64} {z : Nat} (th : Nat) (t1 : Nat) (p2 : Int32) {cf : zS}  (hk_th : K th = 6) (hk_t1 : K t1 = 4) (hf : f_X6_insert K z c th t1 p2 = some cf) : Met l yX6_insert wsX6_insert ({ frames := 3, cells := 0, slots := 0, locals := 64 }) (va_Pc [.ref th, .ref t1, .int p2] (zGW zts0 zns0 D cy base st K L (c, r, o))) (va_Qv (fun (_ : Unit) => True) (fun _ => zB D cy base K L (cf, r, o)) (zA base)) 0 0 (zA base) := by
  refine Met.ofW (cc := cX6_insert) (maxL := 4) (ret := none) (by decide) rfl ?_
  intro p e s m args below meth cd s₁ B hml hv
  obtain ⟨rfl, hG⟩ := hv
  have hx := B.exec
  have hb := B.bytes
  have hr := B.returns
  have hts := atoms_spec (ws := wsX6_insert) B.pre
  have hown : s.vm.findClass RX6 = some m.cls := findClass_of_methodNamed B.named
  have hlocks := B.notSynchronized
  have hC := hG.enter
  have hK := hG.2.2.2.1
  have hi6 : ∀ w ∈ wsX60, w ∈ wsX6_insert := by decide +kernel
  have w0 := hts (.fieldLink RX6 30 "MarketSquare" "line" "[LMarketSquare$Trader;") (by decide +kernel)
  have hl := lv_entry ([.ref th, .ref t1, .int p2]) (n := 4) (Nat.le_of_ble_eq_true rfl)
  rw [lg_entry_eq]
  generalize (lg_sl ([.ref th, .ref t1, .int p2]) ++ List.replicate (4 - (lg_sl ([.ref th, .ref t1, .int p2])).length) Slot.unset).toArray = ls at hl ⊢
  have hl : lv_has ls 4 [(0, .ref th), (1, .ref t1), (2, .int p2)] := hl
  have L2 : ∀ (n2 : Nat) (c9 : zS) (H : Heap) (locs : List Loc) (ls : Array Slot) (v3 : Int32), zC D cy base K L (c9, r, o) s.heap H locs → lv_has ls 4 [(0, .ref th), (1, .ref t1), (2, .int p2), (3, .int v3)] → f_X6_insert_2 K z th t1 p2 n2 c9 v3 = some cf → W p l e (headSpec wsX6_insert ({ frames := 3, cells := 0, slots := 0, locals := 64 })).room s m ([.ref th, .ref t1, .int p2] : List Value).toArray below meth cd H locs 0 0 (MQ below (va_Qv (fun (_ : Unit) => True) (fun _ => zB D cy base K L (cf, r, o)) (zA base)) ([.ref th, .ref t1, .int p2] : List Value).toArray s 0 0 (zA base)) (F0 m 2 ls []) := by
    intro n2
    induction n2 with
    | zero => intro c9 H locs ls v3 hC hl hf; rw [f_X6_insert_2] at hf; cases hf
    | succ n2 ih2 =>
      intro c9 H locs ls v3 hC hl hf
      rw [f_X6_insert_2] at hf
      refine lv_iload_n hx hb dX6_insert_2 rfl (lv_at hl 3 rfl) ?_
      refine lv_if_le (tgt := 41) hx hb dX6_insert_3 (by decide) (fun h12 => ?_) (fun h12 => ?_)
      · have hf := zif_t hf h12
        refine lv_aload_n hx hb dX6_insert_41 rfl (lv_at hl 0 rfl) ?_
        refine zg_6_4 hx hb hts hi6 hown hK hC hk_th w0 dX6_insert_42 ?_
        obtain ⟨a1, ea1, hk_a1, hf⟩ := zn_inv hf
        refine z_ref ea1 ?_
        refine lv_iload_n hx hb dX6_insert_45 rfl (lv_at hl 3 rfl) ?_
        refine lv_aload_n hx hb dX6_insert_46 rfl (lv_at hl 1 rfl) ?_
        obtain ⟨hix, hf⟩ := zx_inv hf
        obtain ⟨c2, ec2, hf⟩ := zlet_inv hf
        refine xp_15 hx hb hK hC hk_a1 hix hk_t1 ec2 dX6_insert_47 (fun H locs hC => ?_)
        exact z_vretW hx hb hr hlocks hC hf dX6_insert_48
      · have hf := zif_f hf h12
        refine lv_aload_n hx hb dX6_insert_6 rfl (lv_at hl 1 rfl) ?_
        refine lv_aload_n hx hb dX6_insert_7 rfl (lv_at hl 0 rfl) ?_
        refine zg_6_4 hx hb hts hi6 hown hK hC hk_th w0 dX6_insert_8 ?_
        obtain ⟨a3, ea3, hk_a3, hf⟩ := zn_inv hf
        refine z_ref ea3 ?_
        refine lv_iload_n hx hb dX6_insert_11 rfl (lv_at hl 3 rfl) ?_
        refine lv_iconst (v := 1) hx hb dX6_insert_12 (by decide) ?_
        refine lv_isub hx hb dX6_insert_13 ?_
        obtain ⟨hix, hf⟩ := zx_inv hf
        refine xg_15 hx hb hK hC hk_a3 hix dX6_insert_14 ?_
        obtain ⟨a4, ea4, hk_a4, hf⟩ := zn_inv hf
        refine z_ref ea4 ?_
        obtain ⟨x6, hc5, hf⟩ := zb_inv hf
        refine z_ci (z_rS (b := 0) (As := [.ref t1, .ref a4]) (rest := []) ⟨hx, hb, hml, hown, hts⟩ (c_X6_isAhead (l := l) (D := D) (cy := cy) (base := base) (st := st) (K := K) (L := L) (c := c9) (r := r) (o := o) (z := z) t1 a4 hk_t1 hk_a4 hc5) (va_cwS 2 hts gX6_insert_X6_isAhead rfl rfl rfl (by decide +kernel) ⟨Nat.le_of_ble_eq_true rfl, Nat.le_of_ble_eq_true rfl⟩) hG hC rfl hl.1 rfl (lv_room (Nat.le_of_ble_eq_true rfl)) dX6_insert_15 ⟨Nat.le_of_ble_eq_true rfl, Nat.le_of_ble_eq_true rfl⟩) hC (fun H locs hC => ?_)
        refine lv_if_eq (tgt := 41) hx hb dX6_insert_18 (by decide) (fun h11 => ?_) (fun h11 => ?_)
        · have hf := zif_t hf h11
          refine lv_aload_n hx hb dX6_insert_41 rfl (lv_at hl 0 rfl) ?_
          refine zg_6_4 hx hb hts hi6 hown hK hC hk_th w0 dX6_insert_42 ?_
          refine z_ref ea3 ?_
          refine lv_iload_n hx hb dX6_insert_45 rfl (lv_at hl 3 rfl) ?_
          refine lv_aload_n hx hb dX6_insert_46 rfl (lv_at hl 1 rfl) ?_
          obtain ⟨hix, hf⟩ := zx_inv hf
          obtain ⟨c7, ec7, hf⟩ := zlet_inv hf
          refine xp_15 hx hb hK hC hk_a3 hix hk_t1 ec7 dX6_insert_47 (fun H locs hC => ?_)
          exact z_vretW hx hb hr hlocks hC hf dX6_insert_48
        · have hf := zif_f hf h11
          refine lv_aload_n hx hb dX6_insert_21 rfl (lv_at hl 0 rfl) ?_
          refine zg_6_4 hx hb hts hi6 hown hK hC hk_th w0 dX6_insert_22 ?_
          refine z_ref ea3 ?_
          refine lv_iload_n hx hb dX6_insert_25 rfl (lv_at hl 3 rfl) ?_
          refine lv_aload_n hx hb dX6_insert_26 rfl (lv_at hl 0 rfl) ?_
          refine zg_6_4 hx hb hts hi6 hown hK hC hk_th w0 dX6_insert_27 ?_
          refine z_ref ea3 ?_
          refine lv_iload_n hx hb dX6_insert_30 rfl (lv_at hl 3 rfl) ?_
          refine lv_iconst (v := 1) hx hb dX6_insert_31 (by decide) ?_
          refine lv_isub hx hb dX6_insert_32 ?_
          obtain ⟨hix, hf⟩ := zx_inv hf
          refine xg_15 hx hb hK hC hk_a3 hix dX6_insert_33 ?_
          obtain ⟨a8, ea8, hk_a8, hf⟩ := zn_inv hf
          refine z_ref ea8 ?_
          obtain ⟨hix, hf⟩ := zx_inv hf
          obtain ⟨c9, ec9, hf⟩ := zlet_inv hf
          refine xp_15 hx hb hK hC hk_a3 hix hk_a8 ec9 dX6_insert_34 (fun H locs hC => ?_)
          obtain ⟨x10, ex10, hf⟩ := zlet_inv hf
          refine lv_iinc (v := x10) (lv' := [(3, .int x10), (0, .ref th), (1, .ref t1), (2, .int p2)]) hx hb dX6_insert_35 hl (k := 3) rfl (by rw [ex10]; rfl) (by decide) rfl (fun ls hl => ?_)
          refine lv_goto (tgt := 2) hx hb dX6_insert_38 (by decide) ?_
          exact ih2 _ _ _ _ x10 hC (lv_sub hl [1, 2, 3, 0] rfl) hf
  unfold f_X6_insert at hf
  refine lv_iload_n hx hb dX6_insert_0 rfl (lv_at hl 2 rfl) ?_
  refine lv_istore_n (lv' := [(3, .int p2), (0, .ref th), (1, .ref t1), (2, .int p2)]) hx hb dX6_insert_1 rfl hl (by decide) rfl (fun ls hl => ?_)
  exact L2 z _ _ _ _ p2 hC (lv_sub hl [1, 2, 3, 0] rfl) hf
def f_X6_lineUpWaiting_4 (K : Nat → Nat) (z : Nat) (th : Nat) : Nat → zS → Int32 → Int32 → Option (Int32 × zS)
  | 0, _, _, _ => none
  | n + 1, c9, v1, v2 =>
    (if (zi c9 126 th 0) ≤ v2 then some (v1, c9) else zn K (zr c9 123 th 0) 14 fun a1 => zx v2 200 <| zn K (zr c9 146 a1 (Int32.toNatClampNeg v2)) 4 fun a2 => zb (f_X4_isWaiting K z c9 a2) fun x4 => (if x4 = 0 then zlet (v2 + 1) fun x5 => f_X6_lineUpWaiting_4 K z th n c9 v1 x5 else zb (f_X6_insert K z c9 th a2 v1) fun c8 => zlet (v1 + 1) fun x9 => zlet (v2 + 1) fun x10 => f_X6_lineUpWaiting_4 K z th n c8 x9 x10))
def f_X6_lineUpWaiting (K : Nat → Nat) (z : Nat) (c : zS) (th : Nat) : Option (Int32 × zS) :=
  f_X6_lineUpWaiting_4 K z th z c 0 0
set_option maxRecDepth 100000 in
set_option maxHeartbeats 4000000 in
theorem c_X6_lineUpWaiting {l : Launch} {D : va_G} {cy : Nat → ClassId} {base : Nat} {st : Nat → Nat} {K : Nat → Nat} {L : List Nat} {c r : zS} {o : Int64} {z : Nat} (th : Nat) {rv : Int32} {cf : zS}  (hk_th : K th = 6) (hf : f_X6_lineUpWaiting K z c th = some (rv, cf)) : Met l yX6_lineUpWaiting wsX6_lineUpWaiting ({ frames := 4, cells := 0, slots := 0, locals := 87 }) (va_Pc [.ref th] (zGW zts0 zns0 D cy base st K L (c, r, o))) (va_Qi (fun (rr : Int32) (_ : Unit) => rr = rv) (fun _ => zB D cy base K L (cf, r, o)) (zA base)) 0 0 (zA base) := by
  refine Met.ofW (cc := cX6_lineUpWaiting) (maxL := 4) (ret := (some .int)) (by decide) rfl ?_
  intro p e s m args below meth cd s₁ B hml hv
  obtain ⟨rfl, hG⟩ := hv
  have hx := B.exec
  have hb := B.bytes
  have hr := B.returns
  have hts := atoms_spec (ws := wsX6_lineUpWaiting) B.pre
  have hown : s.vm.findClass RX6 = some m.cls := findClass_of_methodNamed B.named
  have hlocks := B.notSynchronized
  have hC := hG.enter
  have hK := hG.2.2.2.1
  have hi6 : ∀ w ∈ wsX60, w ∈ wsX6_lineUpWaiting := by decide +kernel
  have w0 := hts (.fieldLink RX6 100 "MarketSquare" "traderCount" "I") (by decide +kernel)
  have w1 := hts (.fieldLink RX6 27 "MarketSquare" "ranked" "[LMarketSquare$Trader;") (by decide +kernel)
  have hl := lv_entry ([.ref th]) (n := 4) (Nat.le_of_ble_eq_true rfl)
  rw [lg_entry_eq]
  generalize (lg_sl ([.ref th]) ++ List.replicate (4 - (lg_sl ([.ref th])).length) Slot.unset).toArray = ls at hl ⊢
  have hl : lv_has ls 4 [(0, .ref th)] := hl
  have L4 : ∀ (n4 : Nat) (c9 : zS) (H : Heap) (locs : List Loc) (ls : Array Slot) (v1 : Int32) (v2 : Int32), zC D cy base K L (c9, r, o) s.heap H locs → lv_has ls 4 [(0, .ref th), (1, .int v1), (2, .int v2)] → f_X6_lineUpWaiting_4 K z th n4 c9 v1 v2 = some (rv, cf) → W p l e (headSpec wsX6_lineUpWaiting ({ frames := 4, cells := 0, slots := 0, locals := 87 })).room s m ([.ref th] : List Value).toArray below meth cd H locs 0 0 (MQ below (va_Qi (fun (rr : Int32) (_ : Unit) => rr = rv) (fun _ => zB D cy base K L (cf, r, o)) (zA base)) ([.ref th] : List Value).toArray s 0 0 (zA base)) (F0 m 4 ls []) := by
    intro n4
    induction n4 with
    | zero => intro c9 H locs ls v1 v2 hC hl hf; rw [f_X6_lineUpWaiting_4] at hf; cases hf
    | succ n4 ih4 =>
      intro c9 H locs ls v1 v2 hC hl hf
      rw [f_X6_lineUpWaiting_4] at hf
      refine lv_iload_n hx hb dX6_lineUpWaiting_4 rfl (lv_at hl 2 rfl) ?_
      refine lv_aload_n hx hb dX6_lineUpWaiting_5 rfl (lv_at hl 0 rfl) ?_
      refine zg_6_6 hx hb hts hi6 hown hK hC hk_th w0 dX6_lineUpWaiting_6 ?_
      refine lv_icmp_ge (tgt := 41) hx hb dX6_lineUpWaiting_9 (by decide) (fun h12 => ?_) (fun h12 => ?_)
      · have hf := zif_t hf h12
        refine lv_iload_n hx hb dX6_lineUpWaiting_41 rfl (lv_at hl 1 rfl) ?_
        exact z_iretW hx hb hr hlocks hC hf dX6_lineUpWaiting_42
      · have hf := zif_f hf h12
        refine lv_aload_n hx hb dX6_lineUpWaiting_12 rfl (lv_at hl 0 rfl) ?_
        refine zg_6_3 hx hb hts hi6 hown hK hC hk_th w1 dX6_lineUpWaiting_13 ?_
        obtain ⟨a1, ea1, hk_a1, hf⟩ := zn_inv hf
        refine z_ref ea1 ?_
        refine lv_iload_n hx hb dX6_lineUpWaiting_16 rfl (lv_at hl 2 rfl) ?_
        obtain ⟨hix, hf⟩ := zx_inv hf
        refine xg_14 hx hb hK hC hk_a1 hix dX6_lineUpWaiting_17 ?_
        obtain ⟨a2, ea2, hk_a2, hf⟩ := zn_inv hf
        refine z_ref ea2 ?_
        refine lv_astore_n (lv' := [(3, .ref a2), (0, .ref th), (1, .int v1), (2, .int v2)]) hx hb dX6_lineUpWaiting_18 rfl hl (by decide) rfl (fun ls hl => ?_)
        refine lv_aload_n hx hb dX6_lineUpWaiting_19 rfl (lv_at hl 0 rfl) ?_
        obtain ⟨x4, hc3, hf⟩ := zb_inv hf
        refine z_ci (z_rV (As := []) (rest := []) ⟨hx, hb, hml, hown, hts⟩ (c_X4_isWaiting (l := l) (D := D) (cy := cy) (base := base) (st := st) (K := K) (L := L) (c := c9) (r := r) (o := o) (z := z) a2 hk_a2 hc3) (cwV 0 hts gX6_lineUpWaiting_X4_isWaiting rfl rfl rfl (by decide +kernel) ⟨Nat.le_of_ble_eq_true rfl, Nat.le_of_ble_eq_true rfl⟩) hG hC (zC.recv (ci := 4) (fs := _) hK hC (by rw [hk_a2]; decide) (by rw [hk_a2]; exact zc_4 cy _ _) rfl) rfl hl.1 rfl (lv_room (Nat.le_of_ble_eq_true rfl)) dX6_lineUpWaiting_20 ⟨Nat.le_of_ble_eq_true rfl, Nat.le_of_ble_eq_true rfl⟩) hC (fun H locs hC => ?_)
        refine lv_if_eq (tgt := 35) hx hb dX6_lineUpWaiting_23 (by decide) (fun h11 => ?_) (fun h11 => ?_)
        · have hf := zif_t hf h11
          obtain ⟨x5, ex5, hf⟩ := zlet_inv hf
          refine lv_iinc (v := x5) (lv' := [(2, .int x5), (3, .ref a2), (0, .ref th), (1, .int v1)]) hx hb dX6_lineUpWaiting_35 hl (k := 3) rfl (by rw [ex5]; rfl) (by decide) rfl (fun ls hl => ?_)
          refine lv_goto (tgt := 4) hx hb dX6_lineUpWaiting_38 (by decide) ?_
          exact ih4 _ _ _ _ v1 x5 hC (lv_sub hl [2, 3, 0] rfl) hf
        · have hf := zif_f hf h11
          refine lv_aload_n hx hb dX6_lineUpWaiting_26 rfl (lv_at hl 1 rfl) ?_
          refine lv_aload_n hx hb dX6_lineUpWaiting_27 rfl (lv_at hl 0 rfl) ?_
          refine lv_iload_n hx hb dX6_lineUpWaiting_28 rfl (lv_at hl 2 rfl) ?_
          obtain ⟨c8, hc6, hf⟩ := zb_inv hf
          refine z_cv (z_rV (As := [.ref a2, .int v1]) (rest := []) ⟨hx, hb, hml, hown, hts⟩ (c_X6_insert (l := l) (D := D) (cy := cy) (base := base) (st := st) (K := K) (L := L) (c := c9) (r := r) (o := o) (z := z) th a2 v1 hk_th hk_a2 hc6) (cwV 2 hts gX6_lineUpWaiting_X6_insert rfl rfl rfl (by decide +kernel) ⟨Nat.le_of_ble_eq_true rfl, Nat.le_of_ble_eq_true rfl⟩) hG hC (zC.recv (ci := 6) (fs := _) hK hC (by rw [hk_th]; decide) (by rw [hk_th]; exact zc_6 cy _ _) rfl) rfl hl.1 rfl (lv_room (Nat.le_of_ble_eq_true rfl)) dX6_lineUpWaiting_29 ⟨Nat.le_of_ble_eq_true rfl, Nat.le_of_ble_eq_true rfl⟩) hC (fun H locs hC => ?_)
          obtain ⟨x9, ex9, hf⟩ := zlet_inv hf
          refine lv_iinc (v := x9) (lv' := [(1, .int x9), (3, .ref a2), (0, .ref th), (2, .int v2)]) hx hb dX6_lineUpWaiting_32 hl (k := 2) rfl (by rw [ex9]; rfl) (by decide) rfl (fun ls hl => ?_)
          obtain ⟨x10, ex10, hf⟩ := zlet_inv hf
          refine lv_iinc (v := x10) (lv' := [(2, .int x10), (1, .int x9), (3, .ref a2), (0, .ref th)]) hx hb dX6_lineUpWaiting_35 hl (k := 3) rfl (by rw [ex10]; rfl) (by decide) rfl (fun ls hl => ?_)
          refine lv_goto (tgt := 4) hx hb dX6_lineUpWaiting_38 (by decide) ?_
          exact ih4 _ _ _ _ x9 x10 hC (lv_sub hl [3, 1, 0] rfl) hf
  unfold f_X6_lineUpWaiting at hf
  refine lv_iconst (v := 0) hx hb dX6_lineUpWaiting_0 (by decide) ?_
  refine lv_istore_n (lv' := [(1, .int 0), (0, .ref th)]) hx hb dX6_lineUpWaiting_1 rfl hl (by decide) rfl (fun ls hl => ?_)
  refine lv_iconst (v := 0) hx hb dX6_lineUpWaiting_2 (by decide) ?_
  refine lv_istore_n (lv' := [(2, .int 0), (1, .int 0), (0, .ref th)]) hx hb dX6_lineUpWaiting_3 rfl hl (by decide) rfl (fun ls hl => ?_)
  exact L4 z _ _ _ _ 0 0 hC (lv_sub hl [2, 1, 0] rfl) hf
def f_X6_waiting (K : Nat → Nat) (z : Nat) (c : zS) (th : Nat) (p1 : Int32) : Option (Int32 × zS) :=
  (if (zi c 128 th 0) = 3 then zb2 (f_X6_lineUpWaiting K z c th) fun x2 c3 => (if p1 < 0 then some ((-1), c3) else (if x2 ≤ p1 then some ((-1), c3) else zn K (zr c3 124 th 0) 15 fun a4 => zx p1 200 <| zn K (zr c3 147 a4 (Int32.toNatClampNeg p1)) 4 fun a5 => some ((zi c3 80 a5 0), c3))) else some ((-1), c))
set_option maxRecDepth 100000 in
set_option maxHeartbeats 4000000 in
theorem c_X6_waiting {l : Launch} {D : va_G} {cy : Nat → ClassId} {base : Nat} {st : Nat → Nat} {K : Nat → Nat} {L : List Nat} {c r : zS} {o : Int64} {z : Nat} (th : Nat) (p1 : Int32) {rv : Int32} {cf : zS}  (hk_th : K th = 6) (hf : f_X6_waiting K z c th p1 = some (rv, cf)) : Met l yX6_waiting wsX6_waiting ({ frames := 5, cells := 0, slots := 0, locals := 110 }) (va_Pc [.ref th, .int p1] (zGW zts0 zns0 D cy base st K L (c, r, o))) (va_Qi (fun (rr : Int32) (_ : Unit) => rr = rv) (fun _ => zB D cy base K L (cf, r, o)) (zA base)) 0 0 (zA base) := by
  refine Met.ofW (cc := cX6_waiting) (maxL := 3) (ret := (some .int)) (by decide) rfl ?_
  intro p e s m args below meth cd s₁ B hml hv
  obtain ⟨rfl, hG⟩ := hv
  have hx := B.exec
  have hb := B.bytes
  have hr := B.returns
  have hts := atoms_spec (ws := wsX6_waiting) B.pre
  have hown : s.vm.findClass RX6 = some m.cls := findClass_of_methodNamed B.named
  have hlocks := B.notSynchronized
  have hC := hG.enter
  have hK := hG.2.2.2.1
  have hi4 : ∀ w ∈ wsX40, w ∈ wsX6_waiting := by decide +kernel
  have hi6 : ∀ w ∈ wsX60, w ∈ wsX6_waiting := by decide +kernel
  have w0 := hts (.fieldLink RX6 162 "MarketSquare" "time" "I") (by decide +kernel)
  have w1 := hts (.fieldLink RX6 30 "MarketSquare" "line" "[LMarketSquare$Trader;") (by decide +kernel)
  have w2 := hts (.fieldLink RX6 214 "MarketSquare$Trader" "number" "I") (by decide +kernel)
  have hl := lv_entry ([.ref th, .int p1]) (n := 3) (Nat.le_of_ble_eq_true rfl)
  rw [lg_entry_eq]
  generalize (lg_sl ([.ref th, .int p1]) ++ List.replicate (3 - (lg_sl ([.ref th, .int p1])).length) Slot.unset).toArray = ls at hl ⊢
  have hl : lv_has ls 3 [(0, .ref th), (1, .int p1)] := hl
  unfold f_X6_waiting at hf
  refine lv_aload_n hx hb dX6_waiting_0 rfl (lv_at hl 0 rfl) ?_
  refine zg_6_8 hx hb hts hi6 hown hK hC hk_th w0 dX6_waiting_1 ?_
  refine lv_iconst (v := 3) hx hb dX6_waiting_4 (by decide) ?_
  refine lv_icmp_eq (tgt := 10) hx hb dX6_waiting_5 (by decide) (fun h8 => ?_) (fun h8 => ?_)
  · have hf := zif_t hf h8
    refine lv_aload_n hx hb dX6_waiting_10 rfl (lv_at hl 0 rfl) ?_
    obtain ⟨x2, c3, hc1, hf⟩ := zb2_inv hf
    refine z_ci (z_rV (As := []) (rest := []) ⟨hx, hb, hml, hown, hts⟩ (c_X6_lineUpWaiting (l := l) (D := D) (cy := cy) (base := base) (st := st) (K := K) (L := L) (c := c) (r := r) (o := o) (z := z) th hk_th hc1) (cwV 0 hts gX6_waiting_X6_lineUpWaiting rfl rfl rfl (by decide +kernel) ⟨Nat.le_of_ble_eq_true rfl, Nat.le_of_ble_eq_true rfl⟩) hG hC (zC.recv (ci := 6) (fs := _) hK hC (by rw [hk_th]; decide) (by rw [hk_th]; exact zc_6 cy _ _) rfl) rfl hl.1 rfl (lv_room (Nat.le_of_ble_eq_true rfl)) dX6_waiting_11 ⟨Nat.le_of_ble_eq_true rfl, Nat.le_of_ble_eq_true rfl⟩) hC (fun H locs hC => ?_)
    refine lv_istore_n (lv' := [(2, .int x2), (0, .ref th), (1, .int p1)]) hx hb dX6_waiting_14 rfl hl (by decide) rfl (fun ls hl => ?_)
    refine lv_iload_n hx hb dX6_waiting_15 rfl (lv_at hl 2 rfl) ?_
    refine lv_if_lt (tgt := 36) hx hb dX6_waiting_16 (by decide) (fun h7 => ?_) (fun h7 => ?_)
    · have hf := zif_t hf h7
      refine lv_iconst (v := (-1)) hx hb dX6_waiting_36 (by decide) ?_
      exact z_iretW hx hb hr hlocks hC hf dX6_waiting_37
    · have hf := zif_f hf h7
      refine lv_iload_n hx hb dX6_waiting_19 rfl (lv_at hl 2 rfl) ?_
      refine lv_iload_n hx hb dX6_waiting_20 rfl (lv_at hl 0 rfl) ?_
      refine lv_icmp_ge (tgt := 36) hx hb dX6_waiting_21 (by decide) (fun h6 => ?_) (fun h6 => ?_)
      · have hf := zif_t hf h6
        refine lv_iconst (v := (-1)) hx hb dX6_waiting_36 (by decide) ?_
        exact z_iretW hx hb hr hlocks hC hf dX6_waiting_37
      · have hf := zif_f hf h6
        refine lv_aload_n hx hb dX6_waiting_24 rfl (lv_at hl 1 rfl) ?_
        refine zg_6_4 hx hb hts hi6 hown hK hC hk_th w1 dX6_waiting_25 ?_
        obtain ⟨a4, ea4, hk_a4, hf⟩ := zn_inv hf
        refine z_ref ea4 ?_
        refine lv_iload_n hx hb dX6_waiting_28 rfl (lv_at hl 2 rfl) ?_
        obtain ⟨hix, hf⟩ := zx_inv hf
        refine xg_15 hx hb hK hC hk_a4 hix dX6_waiting_29 ?_
        obtain ⟨a5, ea5, hk_a5, hf⟩ := zn_inv hf
        refine z_ref ea5 ?_
        refine zg_4_0 hx hb hts hi4 hown hK hC hk_a5 w2 dX6_waiting_30 ?_
        refine lv_goto (tgt := 37) hx hb dX6_waiting_33 (by decide) ?_
        exact z_iretW hx hb hr hlocks hC hf dX6_waiting_37
  · have hf := zif_f hf h8
    refine lv_iconst (v := (-1)) hx hb dX6_waiting_8 (by decide) ?_
    exact z_iretW hx hb hr hlocks hC hf dX6_waiting_9
def f_X1_code (K : Nat → Nat) (z : Nat) (c : zS) (th : Nat) : Option Int32 :=
  (if (zi c 20 th 0) = 0 then some (-1) else some (((zi c 21 th 0) * 200) + (zi c 22 th 0)))
set_option maxRecDepth 100000 in
set_option maxHeartbeats 4000000 in
theorem c_X1_code {l : Launch} {D : va_G} {cy : Nat → ClassId} {base : Nat} {st : Nat → Nat} {K : Nat → Nat} {L : List Nat} {c r : zS} {o : Int64} {z : Nat} (th : Nat) {rv : Int32}  (hk_th : K th = 1) (hf : f_X1_code K z c th = some rv) : Met l yX1_code wsX1_code ({ frames := 0, cells := 0, slots := 0, locals := 0 }) (va_Pc [.ref th] (zGW zts0 zns0 D cy base st K L (c, r, o))) (va_Qi (fun (rr : Int32) (_ : Unit) => rr = rv) (fun _ => zB D cy base K L (c, r, o)) (zA base)) 0 0 (zA base) := by
  refine Met.ofW (cc := cX1_code) (maxL := 1) (ret := (some .int)) (by decide) rfl ?_
  intro p e s m args below meth cd s₁ B hml hv
  obtain ⟨rfl, hG⟩ := hv
  have hx := B.exec
  have hb := B.bytes
  have hr := B.returns
  have hts := atoms_spec (ws := wsX1_code) B.pre
  have hown : s.vm.findClass RX1 = some m.cls := findClass_of_methodNamed B.named
  have hlocks := B.notSynchronized
  have hC := hG.enter
  have hK := hG.2.2.2.1
  have hi1 : ∀ w ∈ wsX10, w ∈ wsX1_code := by decide +kernel
  have w0 := hts (.fieldLink RX1 9 "MarketSquare$Spot" "isSet" "Z") (by decide +kernel)
  have w1 := hts (.fieldLink RX1 15 "MarketSquare$Spot" "row" "I") (by decide +kernel)
  have w2 := hts (.fieldLink RX1 19 "MarketSquare$Spot" "place" "I") (by decide +kernel)
  have hl := lv_entry ([.ref th]) (n := 1) (Nat.le_of_ble_eq_true rfl)
  rw [lg_entry_eq]
  generalize (lg_sl ([.ref th]) ++ List.replicate (1 - (lg_sl ([.ref th])).length) Slot.unset).toArray = ls at hl ⊢
  have hl : lv_has ls 1 [(0, .ref th)] := hl
  unfold f_X1_code at hf
  refine lv_aload_n hx hb dX1_code_0 rfl (lv_at hl 0 rfl) ?_
  refine zg_1_0 hx hb hts hi1 hown hK hC hk_th w0 dX1_code_1 ?_
  refine lv_if_eq (tgt := 23) hx hb dX1_code_4 (by decide) (fun h1 => ?_) (fun h1 => ?_)
  · have hf := zif_t hf h1
    refine lv_iconst (v := (-1)) hx hb dX1_code_23 (by decide) ?_
    exact z_iret hx hb hr hlocks hC hf dX1_code_24
  · have hf := zif_f hf h1
    refine lv_aload_n hx hb dX1_code_7 rfl (lv_at hl 0 rfl) ?_
    refine zg_1_1 hx hb hts hi1 hown hK hC hk_th w1 dX1_code_8 ?_
    refine lv_sipush (v := 200) hx hb dX1_code_11 (by decide) ?_
    refine lv_imul hx hb dX1_code_14 ?_
    refine lv_aload_n hx hb dX1_code_15 rfl (lv_at hl 0 rfl) ?_
    refine zg_1_2 hx hb hts hi1 hown hK hC hk_th w2 dX1_code_16 ?_
    refine lv_iadd hx hb dX1_code_19 ?_
    refine lv_goto (tgt := 24) hx hb dX1_code_20 (by decide) ?_
    exact z_iret hx hb hr hlocks hC hf dX1_code_24
def f_X6_stall_19 (K : Nat → Nat) (z : Nat) (c : zS) (th : Nat) (p1 : Int32) (p2 : Int32) (s0 : Option Nat) : Option Int32 :=
  zo K s0 4 (some (-1)) fun a4 => some (zi c 80 a4 0)
def f_X6_stall (K : Nat → Nat) (z : Nat) (c : zS) (th : Nat) (p1 : Int32) (p2 : Int32) : Option Int32 :=
  zb (f_X6_rowOrNull K z c th p1) fun o2 => zo K o2 0 (f_X6_stall_19 K z c th p1 p2 none) fun a3 => zb (f_X0_holderAt K z c a3 p2) fun o6 => f_X6_stall_19 K z c th p1 p2 o6
set_option maxRecDepth 100000 in
set_option maxHeartbeats 4000000 in
theorem c_X6_stall {l : Launch} {D : va_G} {cy : Nat → ClassId} {base : Nat} {st : Nat → Nat} {K : Nat → Nat} {L : List Nat} {c r : zS} {o : Int64} {z : Nat} (th : Nat) (p1 : Int32) (p2 : Int32) {rv : Int32}  (hk_th : K th = 6) (hf : f_X6_stall K z c th p1 p2 = some rv) : Met l yX6_stall wsX6_stall ({ frames := 2, cells := 0, slots := 0, locals := 42 }) (va_Pc [.ref th, .int p1, .int p2] (zGW zts0 zns0 D cy base st K L (c, r, o))) (va_Qi (fun (rr : Int32) (_ : Unit) => rr = rv) (fun _ => zB D cy base K L (c, r, o)) (zA base)) 0 0 (zA base) := by
  refine Met.ofW (cc := cX6_stall) (maxL := 5) (ret := (some .int)) (by decide) rfl ?_
  intro p e s m args below meth cd s₁ B hml hv
  obtain ⟨rfl, hG⟩ := hv
  have hx := B.exec
  have hb := B.bytes
  have hr := B.returns
  have hts := atoms_spec (ws := wsX6_stall) B.pre
  have hown : s.vm.findClass RX6 = some m.cls := findClass_of_methodNamed B.named
  have hlocks := B.notSynchronized
  have hC := hG.enter
  have hK := hG.2.2.2.1
  have hi4 : ∀ w ∈ wsX40, w ∈ wsX6_stall := by decide +kernel
  have w0 := hts (.fieldLink RX6 214 "MarketSquare$Trader" "number" "I") (by decide +kernel)
  have hl := lv_entry ([.ref th, .int p1, .int p2]) (n := 5) (Nat.le_of_ble_eq_true rfl)
  rw [lg_entry_eq]
  generalize (lg_sl ([.ref th, .int p1, .int p2]) ++ List.replicate (5 - (lg_sl ([.ref th, .int p1, .int p2])).length) Slot.unset).toArray = ls at hl ⊢
  have hl : lv_has ls 5 [(0, .ref th), (1, .int p1), (2, .int p2)] := hl
  have J19 : ∀ (H : Heap) (locs : List Loc) (ls : Array Slot) (s0 : Option Nat), zC D cy base K L (c, r, o) s.heap H locs → lv_has ls 5 [(0, .ref th), (1, .int p1), (2, .int p2)] → f_X6_stall_19 K z c th p1 p2 s0 = some rv → W p l e (headSpec wsX6_stall ({ frames := 2, cells := 0, slots := 0, locals := 42 })).room s m ([.ref th, .int p1, .int p2] : List Value).toArray below meth cd H locs 0 0 (MQ below (va_Qi (fun (rr : Int32) (_ : Unit) => rr = rv) (fun _ => zB D cy base K L (c, r, o)) (zA base)) ([.ref th, .int p1, .int p2] : List Value).toArray s 0 0 (zA base)) (F0 m 19 ls [va_rf s0]) := by
    intro H locs ls s0 hC hl hf
    unfold f_X6_stall_19 at hf
    refine z_astore (lv' := [(4, va_rf s0), (0, .ref th), (1, .int p1), (2, .int p2)]) hx hb dX6_stall_19 hl (by decide) rfl (fun ls hl => ?_)
    refine z_aload hx hb dX6_stall_21 (lv_at hl 0 rfl) ?_
    rcases zo_inv hf with ⟨e0, hf0⟩ | ⟨a4, e0, hk_a4, hf0⟩
    · subst e0; have hf := hf0
      have hl : lv_has ls 5 [(4, .null), (0, .ref th), (1, .int p1), (2, .int p2)] := hl
      refine lv_ifnonnullN hx hb dX6_stall_23 ?_
      refine lv_iconst (v := (-1)) hx hb dX6_stall_26 (by decide) ?_
      refine lv_goto (tgt := 35) hx hb dX6_stall_27 (by decide) ?_
      exact z_iret hx hb hr hlocks hC hf dX6_stall_35
    · subst e0; have hf := hf0
      have hl : lv_has ls 5 [(4, .ref a4), (0, .ref th), (1, .int p1), (2, .int p2)] := hl
      refine lv_ifnonnull (tgt := 30) hx hb dX6_stall_23 (by decide) ?_
      refine lv_aload hx hb dX6_stall_30 (lv_at hl 0 rfl) ?_
      refine zg_4_0 hx hb hts hi4 hown hK hC hk_a4 w0 dX6_stall_32 ?_
      exact z_iret hx hb hr hlocks hC hf dX6_stall_35
  unfold f_X6_stall at hf
  refine lv_aload_n hx hb dX6_stall_0 rfl (lv_at hl 0 rfl) ?_
  refine lv_iload_n hx hb dX6_stall_1 rfl (lv_at hl 1 rfl) ?_
  obtain ⟨o2, hc1, hf⟩ := zb_inv hf
  refine z_cq (z_rV (As := [.int p1]) (rest := []) ⟨hx, hb, hml, hown, hts⟩ (c_X6_rowOrNull (l := l) (D := D) (cy := cy) (base := base) (st := st) (K := K) (L := L) (c := c) (r := r) (o := o) (z := z) th p1 hk_th hc1) (cwV 1 hts gX6_stall_X6_rowOrNull rfl rfl rfl (by decide +kernel) ⟨Nat.le_of_ble_eq_true rfl, Nat.le_of_ble_eq_true rfl⟩) hG hC (zC.recv (ci := 6) (fs := _) hK hC (by rw [hk_th]; decide) (by rw [hk_th]; exact zc_6 cy _ _) rfl) rfl hl.1 rfl (lv_room (Nat.le_of_ble_eq_true rfl)) dX6_stall_2 ⟨Nat.le_of_ble_eq_true rfl, Nat.le_of_ble_eq_true rfl⟩) hC (fun H locs hC => ?_)
  refine z_astore_n (lv' := [(3, va_rf o2), (0, .ref th), (1, .int p1), (2, .int p2)]) hx hb dX6_stall_5 rfl hl (by decide) rfl (fun ls hl => ?_)
  refine z_aload_n hx hb dX6_stall_6 rfl (lv_at hl 0 rfl) ?_
  rcases zo_inv hf with ⟨e0, hf0⟩ | ⟨a3, e0, hk_a3, hf0⟩
  · subst e0; have hf := hf0
    have hl : lv_has ls 5 [(3, .null), (0, .ref th), (1, .int p1), (2, .int p2)] := hl
    refine lv_ifnonnullN hx hb dX6_stall_7 ?_
    refine lv_null hx hb dX6_stall_10 ?_
    refine lv_goto (tgt := 19) hx hb dX6_stall_11 (by decide) ?_
    exact J19 _ _ _ none hC (lv_sub hl [1, 2, 3] rfl) hf
  · subst e0; have hf := hf0
    have hl : lv_has ls 5 [(3, .ref a3), (0, .ref th), (1, .int p1), (2, .int p2)] := hl
    refine lv_ifnonnull (tgt := 14) hx hb dX6_stall_7 (by decide) ?_
    refine lv_aload_n hx hb dX6_stall_14 rfl (lv_at hl 0 rfl) ?_
    refine lv_iload_n hx hb dX6_stall_15 rfl (lv_at hl 3 rfl) ?_
    obtain ⟨o6, hc5, hf⟩ := zb_inv hf
    refine z_cq (z_rV (As := [.int p2]) (rest := []) ⟨hx, hb, hml, hown, hts⟩ (c_X0_holderAt (l := l) (D := D) (cy := cy) (base := base) (st := st) (K := K) (L := L) (c := c) (r := r) (o := o) (z := z) a3 p2 hk_a3 hc5) (cwV 1 hts gX6_stall_X0_holderAt rfl rfl rfl (by decide +kernel) ⟨Nat.le_of_ble_eq_true rfl, Nat.le_of_ble_eq_true rfl⟩) hG hC (zC.recv (ci := 0) (fs := _) hK hC (by rw [hk_a3]; decide) (by rw [hk_a3]; exact zc_0 cy _ _) rfl) rfl hl.1 rfl (lv_room (Nat.le_of_ble_eq_true rfl)) dX6_stall_16 ⟨Nat.le_of_ble_eq_true rfl, Nat.le_of_ble_eq_true rfl⟩) hC (fun H locs hC => ?_)
    exact J19 _ _ _ o6 hC (lv_sub hl [1, 2, 3] rfl) hf
def f_X0_countMarked_4 (K : Nat → Nat) (z : Nat) (c : zS) (th : Nat) (p1 : Int32) : Nat → Int32 → Int32 → Option Int32
  | 0, _, _ => none
  | n + 1, v2, v3 =>
    (if (zi c 2 th 0) ≤ v3 then some v2 else zn K (zr c 0 th 0) 8 fun a1 => zx v3 200 <| (if ((zi c 140 a1 (Int32.toNatClampNeg v3)) &&& p1) = 0 then zb (f_X6_oneIf K z c 0) fun x3 => zlet (v2 + x3) fun x4 => zlet (v3 + 1) fun x5 => f_X0_countMarked_4 K z c th p1 n x4 x5 else zb (f_X6_oneIf K z c 1) fun x7 => zlet (v2 + x7) fun x8 => zlet (v3 + 1) fun x9 => f_X0_countMarked_4 K z c th p1 n x8 x9))
def f_X0_countMarked (K : Nat → Nat) (z : Nat) (c : zS) (th : Nat) (p1 : Int32) : Option Int32 :=
  f_X0_countMarked_4 K z c th p1 z 0 0
set_option maxRecDepth 100000 in
set_option maxHeartbeats 4000000 in
theorem c_X0_countMarked {l : Launch} {D : va_G} {cy : Nat → ClassId} {base : Nat} {st : Nat → Nat} {K : Nat → Nat} {L : List Nat} {c r : zS} {o : Int64} {z : Nat} (th : Nat) (p1 : Int32) {rv : Int32}  (hk_th : K th = 0) (hf : f_X0_countMarked K z c th p1 = some rv) : Met l yX0_countMarked wsX0_countMarked ({ frames := 1, cells := 0, slots := 0, locals := 20 }) (va_Pc [.ref th, .int p1] (zGW zts0 zns0 D cy base st K L (c, r, o))) (va_Qi (fun (rr : Int32) (_ : Unit) => rr = rv) (fun _ => zB D cy base K L (c, r, o)) (zA base)) 0 0 (zA base) := by
  refine Met.ofW (cc := cX0_countMarked) (maxL := 4) (ret := (some .int)) (by decide) rfl ?_
  intro p e s m args below meth cd s₁ B hml hv
  obtain ⟨rfl, hG⟩ := hv
  have hx := B.exec
  have hb := B.bytes
  have hr := B.returns
  have hts := atoms_spec (ws := wsX0_countMarked) B.pre
  have hown : s.vm.findClass RX0 = some m.cls := findClass_of_methodNamed B.named
  have hlocks := B.notSynchronized
  have hC := hG.enter
  have hK := hG.2.2.2.1
  have hi0 : ∀ w ∈ wsX00, w ∈ wsX0_countMarked := by decide +kernel
  have w0 := hts (.fieldLink RX0 21 "MarketSquare$Row" "places" "I") (by decide +kernel)
  have w1 := hts (.fieldLink RX0 9 "MarketSquare$Row" "marks" "[I") (by decide +kernel)
  have w2 := hts (.static yX6_oneIf) (by decide +kernel)
  have w3 := hts (.initialized RX6) (by decide +kernel)
  have hl := lv_entry ([.ref th, .int p1]) (n := 4) (Nat.le_of_ble_eq_true rfl)
  rw [lg_entry_eq]
  generalize (lg_sl ([.ref th, .int p1]) ++ List.replicate (4 - (lg_sl ([.ref th, .int p1])).length) Slot.unset).toArray = ls at hl ⊢
  have hl : lv_has ls 4 [(0, .ref th), (1, .int p1)] := hl
  have L4 : ∀ (n4 : Nat) (H : Heap) (locs : List Loc) (ls : Array Slot) (v2 : Int32) (v3 : Int32), zC D cy base K L (c, r, o) s.heap H locs → lv_has ls 4 [(0, .ref th), (1, .int p1), (2, .int v2), (3, .int v3)] → f_X0_countMarked_4 K z c th p1 n4 v2 v3 = some rv → W p l e (headSpec wsX0_countMarked ({ frames := 1, cells := 0, slots := 0, locals := 20 })).room s m ([.ref th, .int p1] : List Value).toArray below meth cd H locs 0 0 (MQ below (va_Qi (fun (rr : Int32) (_ : Unit) => rr = rv) (fun _ => zB D cy base K L (c, r, o)) (zA base)) ([.ref th, .int p1] : List Value).toArray s 0 0 (zA base)) (F0 m 4 ls []) := by
    intro n4
    induction n4 with
    | zero => intro H locs ls v2 v3 hC hl hf; rw [f_X0_countMarked_4] at hf; cases hf
    | succ n4 ih4 =>
      intro H locs ls v2 v3 hC hl hf
      rw [f_X0_countMarked_4] at hf
      refine lv_iload_n hx hb dX0_countMarked_4 rfl (lv_at hl 3 rfl) ?_
      refine lv_aload_n hx hb dX0_countMarked_5 rfl (lv_at hl 0 rfl) ?_
      refine zg_0_2 hx hb hts hi0 hown hK hC hk_th w0 dX0_countMarked_6 ?_
      refine lv_icmp_ge (tgt := 40) hx hb dX0_countMarked_9 (by decide) (fun h11 => ?_) (fun h11 => ?_)
      · have hf := zif_t hf h11
        refine lv_iload_n hx hb dX0_countMarked_40 rfl (lv_at hl 2 rfl) ?_
        exact z_iret hx hb hr hlocks hC hf dX0_countMarked_41
      · have hf := zif_f hf h11
        refine lv_iload_n hx hb dX0_countMarked_12 rfl (lv_at hl 2 rfl) ?_
        refine lv_aload_n hx hb dX0_countMarked_13 rfl (lv_at hl 0 rfl) ?_
        refine zg_0_0 hx hb hts hi0 hown hK hC hk_th w1 dX0_countMarked_14 ?_
        obtain ⟨a1, ea1, hk_a1, hf⟩ := zn_inv hf
        refine z_ref ea1 ?_
        refine lv_iload_n hx hb dX0_countMarked_17 rfl (lv_at hl 3 rfl) ?_
        obtain ⟨hix, hf⟩ := zx_inv hf
        refine xg_8 hx hb hK hC hk_a1 hix dX0_countMarked_18 ?_
        refine lv_iload_n hx hb dX0_countMarked_19 rfl (lv_at hl 1 rfl) ?_
        refine lv_iand hx hb dX0_countMarked_20 ?_
        refine lv_if_eq (tgt := 28) hx hb dX0_countMarked_21 (by decide) (fun h10 => ?_) (fun h10 => ?_)
        · have hf := zif_t hf h10
          refine lv_iconst (v := 0) hx hb dX0_countMarked_28 (by decide) ?_
          obtain ⟨x3, hc2, hf⟩ := zb_inv hf
          refine z_ci (z_rSN (b := 0) (As := [.int 0]) (rest := [.int v2]) ⟨hx, hb, hml, hown, hts⟩ (c_X6_oneIf (l := l) (D := D) (cy := cy) (base := base) (st := st) (K := K) (L := L) (c := c) (r := r) (o := o) (z := z) 0  hc2) ⟨va_cnB 1 hts gX0_countMarked_X6_oneIf_n40 rfl rfl rfl (hG.2.2.2.2.2.2.2.2.1 _ (List.mem_of_getElem? (i := 1) rfl)) w3 (by decide +kernel) ⟨Nat.le_of_ble_eq_true rfl, Nat.le_of_ble_eq_true rfl⟩, w2, trivial⟩ hG hC rfl hl.1 rfl (lv_room (Nat.le_of_ble_eq_true rfl)) dX0_countMarked_29 ⟨Nat.le_of_ble_eq_true rfl, Nat.le_of_ble_eq_true rfl⟩) hC (fun H locs hC => ?_)
          refine lv_iadd hx hb dX0_countMarked_32 ?_
          obtain ⟨x4, ex4, hf⟩ := zlet_inv hf
          refine z_name ex4 ?_
          refine lv_istore_n (lv' := [(2, .int x4), (0, .ref th), (1, .int p1), (3, .int v3)]) hx hb dX0_countMarked_33 rfl hl (by decide) rfl (fun ls hl => ?_)
          obtain ⟨x5, ex5, hf⟩ := zlet_inv hf
          refine lv_iinc (v := x5) (lv' := [(3, .int x5), (2, .int x4), (0, .ref th), (1, .int p1)]) hx hb dX0_countMarked_34 hl (k := 3) rfl (by rw [ex5]; rfl) (by decide) rfl (fun ls hl => ?_)
          refine lv_goto (tgt := 4) hx hb dX0_countMarked_37 (by decide) ?_
          exact ih4 _ _ _ x4 x5 hC (lv_sub hl [2, 3, 1, 0] rfl) hf
        · have hf := zif_f hf h10
          refine lv_iconst (v := 1) hx hb dX0_countMarked_24 (by decide) ?_
          refine lv_goto (tgt := 29) hx hb dX0_countMarked_25 (by decide) ?_
          obtain ⟨x7, hc6, hf⟩ := zb_inv hf
          refine z_ci (z_rSN (b := 0) (As := [.int 1]) (rest := [.int v2]) ⟨hx, hb, hml, hown, hts⟩ (c_X6_oneIf (l := l) (D := D) (cy := cy) (base := base) (st := st) (K := K) (L := L) (c := c) (r := r) (o := o) (z := z) 1  hc6) ⟨va_cnB 1 hts gX0_countMarked_X6_oneIf_n40 rfl rfl rfl (hG.2.2.2.2.2.2.2.2.1 _ (List.mem_of_getElem? (i := 1) rfl)) w3 (by decide +kernel) ⟨Nat.le_of_ble_eq_true rfl, Nat.le_of_ble_eq_true rfl⟩, w2, trivial⟩ hG hC rfl hl.1 rfl (lv_room (Nat.le_of_ble_eq_true rfl)) dX0_countMarked_29 ⟨Nat.le_of_ble_eq_true rfl, Nat.le_of_ble_eq_true rfl⟩) hC (fun H locs hC => ?_)
          refine lv_iadd hx hb dX0_countMarked_32 ?_
          obtain ⟨x8, ex8, hf⟩ := zlet_inv hf
          refine z_name ex8 ?_
          refine lv_istore_n (lv' := [(2, .int x8), (0, .ref th), (1, .int p1), (3, .int v3)]) hx hb dX0_countMarked_33 rfl hl (by decide) rfl (fun ls hl => ?_)
          obtain ⟨x9, ex9, hf⟩ := zlet_inv hf
          refine lv_iinc (v := x9) (lv' := [(3, .int x9), (2, .int x8), (0, .ref th), (1, .int p1)]) hx hb dX0_countMarked_34 hl (k := 3) rfl (by rw [ex9]; rfl) (by decide) rfl (fun ls hl => ?_)
          refine lv_goto (tgt := 4) hx hb dX0_countMarked_37 (by decide) ?_
          exact ih4 _ _ _ x8 x9 hC (lv_sub hl [2, 3, 1, 0] rfl) hf
  unfold f_X0_countMarked at hf
  refine lv_iconst (v := 0) hx hb dX0_countMarked_0 (by decide) ?_
  refine lv_istore_n (lv' := [(2, .int 0), (0, .ref th), (1, .int p1)]) hx hb dX0_countMarked_1 rfl hl (by decide) rfl (fun ls hl => ?_)
  refine lv_iconst (v := 0) hx hb dX0_countMarked_2 (by decide) ?_
  refine lv_istore_n (lv' := [(3, .int 0), (2, .int 0), (0, .ref th), (1, .int p1)]) hx hb dX0_countMarked_3 rfl hl (by decide) rfl (fun ls hl => ?_)
  exact L4 z _ _ _ 0 0 hC (lv_sub hl [2, 3, 1, 0] rfl) hf
def f_X0_countTaken_4 (K : Nat → Nat) (z : Nat) (c : zS) (th : Nat) : Nat → Int32 → Int32 → Option Int32
  | 0, _, _ => none
  | n + 1, v1, v2 =>
    (if (zi c 2 th 0) ≤ v2 then some v1 else zn K (zr c 1 th 0) 16 fun a1 => zx v2 200 <| zlet (zr c 148 a1 (Int32.toNatClampNeg v2)) fun o2 => zo K o2 4 (zb (f_X6_oneIf K z c 0) fun x5 => zlet (v1 + x5) fun x6 => zlet (v2 + 1) fun x7 => f_X0_countTaken_4 K z c th n x6 x7) fun a3 => zb (f_X6_oneIf K z c 1) fun x9 => zlet (v1 + x9) fun x10 => zlet (v2 + 1) fun x11 => f_X0_countTaken_4 K z c th n x10 x11)
def f_X0_countTaken (K : Nat → Nat) (z : Nat) (c : zS) (th : Nat) : Option Int32 :=
  f_X0_countTaken_4 K z c th z 0 0
set_option maxRecDepth 100000 in
set_option maxHeartbeats 4000000 in
theorem c_X0_countTaken {l : Launch} {D : va_G} {cy : Nat → ClassId} {base : Nat} {st : Nat → Nat} {K : Nat → Nat} {L : List Nat} {c r : zS} {o : Int64} {z : Nat} (th : Nat) {rv : Int32}  (hk_th : K th = 0) (hf : f_X0_countTaken K z c th = some rv) : Met l yX0_countTaken wsX0_countTaken ({ frames := 1, cells := 0, slots := 0, locals := 20 }) (va_Pc [.ref th] (zGW zts0 zns0 D cy base st K L (c, r, o))) (va_Qi (fun (rr : Int32) (_ : Unit) => rr = rv) (fun _ => zB D cy base K L (c, r, o)) (zA base)) 0 0 (zA base) := by
  refine Met.ofW (cc := cX0_countTaken) (maxL := 3) (ret := (some .int)) (by decide) rfl ?_
  intro p e s m args below meth cd s₁ B hml hv
  obtain ⟨rfl, hG⟩ := hv
  have hx := B.exec
  have hb := B.bytes
  have hr := B.returns
  have hts := atoms_spec (ws := wsX0_countTaken) B.pre
  have hown : s.vm.findClass RX0 = some m.cls := findClass_of_methodNamed B.named
  have hlocks := B.notSynchronized
  have hC := hG.enter
  have hK := hG.2.2.2.1
  have hi0 : ∀ w ∈ wsX00, w ∈ wsX0_countTaken := by decide +kernel
  have w0 := hts (.fieldLink RX0 21 "MarketSquare$Row" "places" "I") (by decide +kernel)
  have w1 := hts (.fieldLink RX0 17 "MarketSquare$Row" "holders" "[LMarketSquare$Trader;") (by decide +kernel)
  have w2 := hts (.static yX6_oneIf) (by decide +kernel)
  have w3 := hts (.initialized RX6) (by decide +kernel)
  have hl := lv_entry ([.ref th]) (n := 3) (Nat.le_of_ble_eq_true rfl)
  rw [lg_entry_eq]
  generalize (lg_sl ([.ref th]) ++ List.replicate (3 - (lg_sl ([.ref th])).length) Slot.unset).toArray = ls at hl ⊢
  have hl : lv_has ls 3 [(0, .ref th)] := hl
  have L4 : ∀ (n4 : Nat) (H : Heap) (locs : List Loc) (ls : Array Slot) (v1 : Int32) (v2 : Int32), zC D cy base K L (c, r, o) s.heap H locs → lv_has ls 3 [(0, .ref th), (1, .int v1), (2, .int v2)] → f_X0_countTaken_4 K z c th n4 v1 v2 = some rv → W p l e (headSpec wsX0_countTaken ({ frames := 1, cells := 0, slots := 0, locals := 20 })).room s m ([.ref th] : List Value).toArray below meth cd H locs 0 0 (MQ below (va_Qi (fun (rr : Int32) (_ : Unit) => rr = rv) (fun _ => zB D cy base K L (c, r, o)) (zA base)) ([.ref th] : List Value).toArray s 0 0 (zA base)) (F0 m 4 ls []) := by
    intro n4
    induction n4 with
    | zero => intro H locs ls v1 v2 hC hl hf; rw [f_X0_countTaken_4] at hf; cases hf
    | succ n4 ih4 =>
      intro H locs ls v1 v2 hC hl hf
      rw [f_X0_countTaken_4] at hf
      refine lv_iload_n hx hb dX0_countTaken_4 rfl (lv_at hl 2 rfl) ?_
      refine lv_aload_n hx hb dX0_countTaken_5 rfl (lv_at hl 0 rfl) ?_
      refine zg_0_2 hx hb hts hi0 hown hK hC hk_th w0 dX0_countTaken_6 ?_
      refine lv_icmp_ge (tgt := 38) hx hb dX0_countTaken_9 (by decide) (fun h12 => ?_) (fun h12 => ?_)
      · have hf := zif_t hf h12
        refine lv_iload_n hx hb dX0_countTaken_38 rfl (lv_at hl 1 rfl) ?_
        exact z_iret hx hb hr hlocks hC hf dX0_countTaken_39
      · have hf := zif_f hf h12
        refine lv_iload_n hx hb dX0_countTaken_12 rfl (lv_at hl 1 rfl) ?_
        refine lv_aload_n hx hb dX0_countTaken_13 rfl (lv_at hl 0 rfl) ?_
        refine zg_0_1 hx hb hts hi0 hown hK hC hk_th w1 dX0_countTaken_14 ?_
        obtain ⟨a1, ea1, hk_a1, hf⟩ := zn_inv hf
        refine z_ref ea1 ?_
        refine lv_iload_n hx hb dX0_countTaken_17 rfl (lv_at hl 2 rfl) ?_
        obtain ⟨hix, hf⟩ := zx_inv hf
        refine xg_16 hx hb hK hC hk_a1 hix dX0_countTaken_18 ?_
        obtain ⟨o2, eo2, hf⟩ := zlet_inv hf
        refine z_nameo eo2 ?_
        rcases zo_inv hf with ⟨e0, hf0⟩ | ⟨a3, e0, hk_a3, hf0⟩
        · subst e0; have hf := hf0
          have hl : lv_has ls 3 [(0, .ref th), (1, .int v1), (2, .int v2)] := hl
          refine lv_ifnullN (tgt := 26) hx hb dX0_countTaken_19 (by decide) ?_
          refine lv_iconst (v := 0) hx hb dX0_countTaken_26 (by decide) ?_
          obtain ⟨x5, hc4, hf⟩ := zb_inv hf
          refine z_ci (z_rSN (b := 0) (As := [.int 0]) (rest := [.int v1]) ⟨hx, hb, hml, hown, hts⟩ (c_X6_oneIf (l := l) (D := D) (cy := cy) (base := base) (st := st) (K := K) (L := L) (c := c) (r := r) (o := o) (z := z) 0  hc4) ⟨va_cnB 1 hts gX0_countTaken_X6_oneIf_n40 rfl rfl rfl (hG.2.2.2.2.2.2.2.2.1 _ (List.mem_of_getElem? (i := 1) rfl)) w3 (by decide +kernel) ⟨Nat.le_of_ble_eq_true rfl, Nat.le_of_ble_eq_true rfl⟩, w2, trivial⟩ hG hC rfl hl.1 rfl (lv_room (Nat.le_of_ble_eq_true rfl)) dX0_countTaken_27 ⟨Nat.le_of_ble_eq_true rfl, Nat.le_of_ble_eq_true rfl⟩) hC (fun H locs hC => ?_)
          refine lv_iadd hx hb dX0_countTaken_30 ?_
          obtain ⟨x6, ex6, hf⟩ := zlet_inv hf
          refine z_name ex6 ?_
          refine lv_istore_n (lv' := [(1, .int x6), (0, .ref th), (2, .int v2)]) hx hb dX0_countTaken_31 rfl hl (by decide) rfl (fun ls hl => ?_)
          obtain ⟨x7, ex7, hf⟩ := zlet_inv hf
          refine lv_iinc (v := x7) (lv' := [(2, .int x7), (1, .int x6), (0, .ref th)]) hx hb dX0_countTaken_32 hl (k := 2) rfl (by rw [ex7]; rfl) (by decide) rfl (fun ls hl => ?_)
          refine lv_goto (tgt := 4) hx hb dX0_countTaken_35 (by decide) ?_
          exact ih4 _ _ _ x6 x7 hC (lv_sub hl [2, 1, 0] rfl) hf
        · subst e0; have hf := hf0
          have hl : lv_has ls 3 [(0, .ref th), (1, .int v1), (2, .int v2)] := hl
          refine lv_ifnull hx hb dX0_countTaken_19 ?_
          refine lv_iconst (v := 1) hx hb dX0_countTaken_22 (by decide) ?_
          refine lv_goto (tgt := 27) hx hb dX0_countTaken_23 (by decide) ?_
          obtain ⟨x9, hc8, hf⟩ := zb_inv hf
          refine z_ci (z_rSN (b := 0) (As := [.int 1]) (rest := [.int v1]) ⟨hx, hb, hml, hown, hts⟩ (c_X6_oneIf (l := l) (D := D) (cy := cy) (base := base) (st := st) (K := K) (L := L) (c := c) (r := r) (o := o) (z := z) 1  hc8) ⟨va_cnB 1 hts gX0_countTaken_X6_oneIf_n40 rfl rfl rfl (hG.2.2.2.2.2.2.2.2.1 _ (List.mem_of_getElem? (i := 1) rfl)) w3 (by decide +kernel) ⟨Nat.le_of_ble_eq_true rfl, Nat.le_of_ble_eq_true rfl⟩, w2, trivial⟩ hG hC rfl hl.1 rfl (lv_room (Nat.le_of_ble_eq_true rfl)) dX0_countTaken_27 ⟨Nat.le_of_ble_eq_true rfl, Nat.le_of_ble_eq_true rfl⟩) hC (fun H locs hC => ?_)
          refine lv_iadd hx hb dX0_countTaken_30 ?_
          obtain ⟨x10, ex10, hf⟩ := zlet_inv hf
          refine z_name ex10 ?_
          refine lv_istore_n (lv' := [(1, .int x10), (0, .ref th), (2, .int v2)]) hx hb dX0_countTaken_31 rfl hl (by decide) rfl (fun ls hl => ?_)
          obtain ⟨x11, ex11, hf⟩ := zlet_inv hf
          refine lv_iinc (v := x11) (lv' := [(2, .int x11), (1, .int x10), (0, .ref th)]) hx hb dX0_countTaken_32 hl (k := 2) rfl (by rw [ex11]; rfl) (by decide) rfl (fun ls hl => ?_)
          refine lv_goto (tgt := 4) hx hb dX0_countTaken_35 (by decide) ?_
          exact ih4 _ _ _ x10 x11 hC (lv_sub hl [2, 1, 0] rfl) hf
  unfold f_X0_countTaken at hf
  refine lv_iconst (v := 0) hx hb dX0_countTaken_0 (by decide) ?_
  refine lv_istore_n (lv' := [(1, .int 0), (0, .ref th)]) hx hb dX0_countTaken_1 rfl hl (by decide) rfl (fun ls hl => ?_)
  refine lv_iconst (v := 0) hx hb dX0_countTaken_2 (by decide) ?_
  refine lv_istore_n (lv' := [(2, .int 0), (1, .int 0), (0, .ref th)]) hx hb dX0_countTaken_3 rfl hl (by decide) rfl (fun ls hl => ?_)
  exact L4 z _ _ _ 0 0 hC (lv_sub hl [2, 1, 0] rfl) hf
def f_X6_square (K : Nat → Nat) (z : Nat) (c : zS) (th : Nat) (p1 : Int32) (p2 : Int32) : Option Int32 :=
  zb (f_X6_rowOrNull K z c th p1) fun o2 => zo K o2 0 (some (-1)) fun a3 => (if p2 = 0 then some (zi c 2 a3 0) else (if p2 = 1 then zb (f_X0_countMarked K z c a3 1) fun x7 => some x7 else (if p2 = 2 then zb (f_X0_countMarked K z c a3 2) fun x10 => some x10 else (if p2 = 3 then zb (f_X0_countMarked K z c a3 4) fun x13 => some x13 else (if p2 = 4 then zb (f_X0_countTaken K z c a3) fun x16 => some x16 else some (-1))))))
set_option maxRecDepth 100000 in
set_option maxHeartbeats 4000000 in
theorem c_X6_square {l : Launch} {D : va_G} {cy : Nat → ClassId} {base : Nat} {st : Nat → Nat} {K : Nat → Nat} {L : List Nat} {c r : zS} {o : Int64} {z : Nat} (th : Nat) (p1 : Int32) (p2 : Int32) {rv : Int32}  (hk_th : K th = 6) (hf : f_X6_square K z c th p1 p2 = some rv) : Met l yX6_square wsX6_square ({ frames := 2, cells := 0, slots := 0, locals := 43 }) (va_Pc [.ref th, .int p1, .int p2] (zGW zts0 zns0 D cy base st K L (c, r, o))) (va_Qi (fun (rr : Int32) (_ : Unit) => rr = rv) (fun _ => zB D cy base K L (c, r, o)) (zA base)) 0 0 (zA base) := by
  refine Met.ofW (cc := cX6_square) (maxL := 4) (ret := (some .int)) (by decide) rfl ?_
  intro p e s m args below meth cd s₁ B hml hv
  obtain ⟨rfl, hG⟩ := hv
  have hx := B.exec
  have hb := B.bytes
  have hr := B.returns
  have hts := atoms_spec (ws := wsX6_square) B.pre
  have hown : s.vm.findClass RX6 = some m.cls := findClass_of_methodNamed B.named
  have hlocks := B.notSynchronized
  have hC := hG.enter
  have hK := hG.2.2.2.1
  have hi0 : ∀ w ∈ wsX00, w ∈ wsX6_square := by decide +kernel
  have w0 := hts (.fieldLink RX6 305 "MarketSquare$Row" "places" "I") (by decide +kernel)
  have hl := lv_entry ([.ref th, .int p1, .int p2]) (n := 4) (Nat.le_of_ble_eq_true rfl)
  rw [lg_entry_eq]
  generalize (lg_sl ([.ref th, .int p1, .int p2]) ++ List.replicate (4 - (lg_sl ([.ref th, .int p1, .int p2])).length) Slot.unset).toArray = ls at hl ⊢
  have hl : lv_has ls 4 [(0, .ref th), (1, .int p1), (2, .int p2)] := hl
  unfold f_X6_square at hf
  refine lv_aload_n hx hb dX6_square_0 rfl (lv_at hl 0 rfl) ?_
  refine lv_iload_n hx hb dX6_square_1 rfl (lv_at hl 1 rfl) ?_
  obtain ⟨o2, hc1, hf⟩ := zb_inv hf
  refine z_cq (z_rV (As := [.int p1]) (rest := []) ⟨hx, hb, hml, hown, hts⟩ (c_X6_rowOrNull (l := l) (D := D) (cy := cy) (base := base) (st := st) (K := K) (L := L) (c := c) (r := r) (o := o) (z := z) th p1 hk_th hc1) (cwV 1 hts gX6_square_X6_rowOrNull rfl rfl rfl (by decide +kernel) ⟨Nat.le_of_ble_eq_true rfl, Nat.le_of_ble_eq_true rfl⟩) hG hC (zC.recv (ci := 6) (fs := _) hK hC (by rw [hk_th]; decide) (by rw [hk_th]; exact zc_6 cy _ _) rfl) rfl hl.1 rfl (lv_room (Nat.le_of_ble_eq_true rfl)) dX6_square_2 ⟨Nat.le_of_ble_eq_true rfl, Nat.le_of_ble_eq_true rfl⟩) hC (fun H locs hC => ?_)
  refine z_astore_n (lv' := [(3, va_rf o2), (0, .ref th), (1, .int p1), (2, .int p2)]) hx hb dX6_square_5 rfl hl (by decide) rfl (fun ls hl => ?_)
  refine z_aload_n hx hb dX6_square_6 rfl (lv_at hl 0 rfl) ?_
  rcases zo_inv hf with ⟨e0, hf0⟩ | ⟨a3, e0, hk_a3, hf0⟩
  · subst e0; have hf := hf0
    have hl : lv_has ls 4 [(3, .null), (0, .ref th), (1, .int p1), (2, .int p2)] := hl
    refine lv_ifnonnullN hx hb dX6_square_7 ?_
    refine lv_iconst (v := (-1)) hx hb dX6_square_10 (by decide) ?_
    exact z_iret hx hb hr hlocks hC hf dX6_square_11
  · subst e0; have hf := hf0
    have hl : lv_has ls 4 [(3, .ref a3), (0, .ref th), (1, .int p1), (2, .int p2)] := hl
    refine lv_ifnonnull (tgt := 12) hx hb dX6_square_7 (by decide) ?_
    refine lv_iload_n hx hb dX6_square_12 rfl (lv_at hl 3 rfl) ?_
    by_cases h4 : p2 = 0
    · have hf := zif_t hf h4
      refine z_name h4.symm ?_
      refine lv_tableIn (off := 35) (tgt := 48) hx hb dX6_square_13 (by decide) (by decide) (by decide) (by decide) ?_
      refine lv_aload_n hx hb dX6_square_48 rfl (lv_at hl 0 rfl) ?_
      refine zg_0_2 hx hb hts hi0 hown hK hC hk_a3 w0 dX6_square_49 ?_
      exact z_iret hx hb hr hlocks hC hf dX6_square_52
    have hf := zif_f hf h4
    by_cases h5 : p2 = 1
    · have hf := zif_t hf h5
      refine z_name h5.symm ?_
      refine lv_tableIn (off := 40) (tgt := 53) hx hb dX6_square_13 (by decide) (by decide) (by decide) (by decide) ?_
      refine lv_aload_n hx hb dX6_square_53 rfl (lv_at hl 0 rfl) ?_
      refine lv_iconst (v := 1) hx hb dX6_square_54 (by decide) ?_
      obtain ⟨x7, hc6, hf⟩ := zb_inv hf
      refine z_ci (z_rV (As := [.int 1]) (rest := []) ⟨hx, hb, hml, hown, hts⟩ (c_X0_countMarked (l := l) (D := D) (cy := cy) (base := base) (st := st) (K := K) (L := L) (c := c) (r := r) (o := o) (z := z) a3 1 hk_a3 hc6) (cwV 1 hts gX6_square_X0_countMarked rfl rfl rfl (by decide +kernel) ⟨Nat.le_of_ble_eq_true rfl, Nat.le_of_ble_eq_true rfl⟩) hG hC (zC.recv (ci := 0) (fs := _) hK hC (by rw [hk_a3]; decide) (by rw [hk_a3]; exact zc_0 cy _ _) rfl) rfl hl.1 rfl (lv_room (Nat.le_of_ble_eq_true rfl)) dX6_square_55 ⟨Nat.le_of_ble_eq_true rfl, Nat.le_of_ble_eq_true rfl⟩) hC (fun H locs hC => ?_)
      exact z_iret hx hb hr hlocks hC hf dX6_square_58
    have hf := zif_f hf h5
    by_cases h8 : p2 = 2
    · have hf := zif_t hf h8
      refine z_name h8.symm ?_
      refine lv_tableIn (off := 46) (tgt := 59) hx hb dX6_square_13 (by decide) (by decide) (by decide) (by decide) ?_
      refine lv_aload_n hx hb dX6_square_59 rfl (lv_at hl 0 rfl) ?_
      refine lv_iconst (v := 2) hx hb dX6_square_60 (by decide) ?_
      obtain ⟨x10, hc9, hf⟩ := zb_inv hf
      refine z_ci (z_rV (As := [.int 2]) (rest := []) ⟨hx, hb, hml, hown, hts⟩ (c_X0_countMarked (l := l) (D := D) (cy := cy) (base := base) (st := st) (K := K) (L := L) (c := c) (r := r) (o := o) (z := z) a3 2 hk_a3 hc9) (cwV 1 hts gX6_square_X0_countMarked rfl rfl rfl (by decide +kernel) ⟨Nat.le_of_ble_eq_true rfl, Nat.le_of_ble_eq_true rfl⟩) hG hC (zC.recv (ci := 0) (fs := _) hK hC (by rw [hk_a3]; decide) (by rw [hk_a3]; exact zc_0 cy _ _) rfl) rfl hl.1 rfl (lv_room (Nat.le_of_ble_eq_true rfl)) dX6_square_61 ⟨Nat.le_of_ble_eq_true rfl, Nat.le_of_ble_eq_true rfl⟩) hC (fun H locs hC => ?_)
      exact z_iret hx hb hr hlocks hC hf dX6_square_64
    have hf := zif_f hf h8
    by_cases h11 : p2 = 3
    · have hf := zif_t hf h11
      refine z_name h11.symm ?_
      refine lv_tableIn (off := 52) (tgt := 65) hx hb dX6_square_13 (by decide) (by decide) (by decide) (by decide) ?_
      refine lv_aload_n hx hb dX6_square_65 rfl (lv_at hl 0 rfl) ?_
      refine lv_iconst (v := 4) hx hb dX6_square_66 (by decide) ?_
      obtain ⟨x13, hc12, hf⟩ := zb_inv hf
      refine z_ci (z_rV (As := [.int 4]) (rest := []) ⟨hx, hb, hml, hown, hts⟩ (c_X0_countMarked (l := l) (D := D) (cy := cy) (base := base) (st := st) (K := K) (L := L) (c := c) (r := r) (o := o) (z := z) a3 4 hk_a3 hc12) (cwV 1 hts gX6_square_X0_countMarked rfl rfl rfl (by decide +kernel) ⟨Nat.le_of_ble_eq_true rfl, Nat.le_of_ble_eq_true rfl⟩) hG hC (zC.recv (ci := 0) (fs := _) hK hC (by rw [hk_a3]; decide) (by rw [hk_a3]; exact zc_0 cy _ _) rfl) rfl hl.1 rfl (lv_room (Nat.le_of_ble_eq_true rfl)) dX6_square_67 ⟨Nat.le_of_ble_eq_true rfl, Nat.le_of_ble_eq_true rfl⟩) hC (fun H locs hC => ?_)
      exact z_iret hx hb hr hlocks hC hf dX6_square_70
    have hf := zif_f hf h11
    by_cases h14 : p2 = 4
    · have hf := zif_t hf h14
      refine z_name h14.symm ?_
      refine lv_tableIn (off := 58) (tgt := 71) hx hb dX6_square_13 (by decide) (by decide) (by decide) (by decide) ?_
      refine lv_aload_n hx hb dX6_square_71 rfl (lv_at hl 0 rfl) ?_
      obtain ⟨x16, hc15, hf⟩ := zb_inv hf
      refine z_ci (z_rV (As := []) (rest := []) ⟨hx, hb, hml, hown, hts⟩ (c_X0_countTaken (l := l) (D := D) (cy := cy) (base := base) (st := st) (K := K) (L := L) (c := c) (r := r) (o := o) (z := z) a3 hk_a3 hc15) (cwV 0 hts gX6_square_X0_countTaken rfl rfl rfl (by decide +kernel) ⟨Nat.le_of_ble_eq_true rfl, Nat.le_of_ble_eq_true rfl⟩) hG hC (zC.recv (ci := 0) (fs := _) hK hC (by rw [hk_a3]; decide) (by rw [hk_a3]; exact zc_0 cy _ _) rfl) rfl hl.1 rfl (lv_room (Nat.le_of_ble_eq_true rfl)) dX6_square_72 ⟨Nat.le_of_ble_eq_true rfl, Nat.le_of_ble_eq_true rfl⟩) hC (fun H locs hC => ?_)
      exact z_iret hx hb hr hlocks hC hf dX6_square_75
    have hf := zif_f hf h14
    refine lv_tableOut (tgt := 76) hx hb dX6_square_13 (by have q0 := z_ne (k := 0) (by decide) h4; have q1 := z_ne (k := 1) (by decide) h5; have q2 := z_ne (k := 2) (by decide) h8; have q3 := z_ne (k := 3) (by decide) h11; have q4 := z_ne (k := 4) (by decide) h14; omega) (by decide) ?_
    refine lv_iconst (v := (-1)) hx hb dX6_square_76 (by decide) ?_
    exact z_iret hx hb hr hlocks hC hf dX6_square_77
def f_X6_count (K : Nat → Nat) (z : Nat) (c : zS) (th : Nat) (p1 : Int32) : Option Int64 :=
  (if p1 = 0 then some (Int32.toInt64 (zi c 125 th 0)) else (if p1 = 1 then some (Int32.toInt64 (zi c 126 th 0)) else (if p1 = 2 then some (Int32.toInt64 (zi c 128 th 0)) else (if p1 = 3 then some (Int32.toInt64 (zi c 129 th 0)) else (if p1 = 4 then some (Int32.toInt64 (zi c 131 th 0)) else (if p1 = 5 then some (Int32.toInt64 (zi c 132 th 0)) else (if p1 = 6 then some ((zl c 134 th 0) - (zl c 135 th 0)) else (if p1 = 7 then some (zl c 134 th 0) else (if p1 = 8 then some (zl c 135 th 0) else (if p1 = 9 then some (zl c 136 th 0) else (if p1 = 10 then some (zl c 137 th 0) else some (-1))))))))))))
set_option maxRecDepth 100000 in
set_option maxHeartbeats 4000000 in
theorem c_X6_count {l : Launch} {D : va_G} {cy : Nat → ClassId} {base : Nat} {st : Nat → Nat} {K : Nat → Nat} {L : List Nat} {c r : zS} {o : Int64} {z : Nat} (th : Nat) (p1 : Int32) {rv : Int64}  (hk_th : K th = 6) (hf : f_X6_count K z c th p1 = some rv) : Met l yX6_count wsX6_count ({ frames := 0, cells := 0, slots := 0, locals := 0 }) (va_Pc [.ref th, .int p1] (zGW zts0 zns0 D cy base st K L (c, r, o))) (va_Ql (fun (rr : Int64) (_ : Unit) => rr = rv) (fun _ => zB D cy base K L (c, r, o)) (zA base)) 0 0 (zA base) := by
  refine Met.ofW (cc := cX6_count) (maxL := 2) (ret := (some .long)) (by decide) rfl ?_
  intro p e s m args below meth cd s₁ B hml hv
  obtain ⟨rfl, hG⟩ := hv
  have hx := B.exec
  have hb := B.bytes
  have hr := B.returns
  have hts := atoms_spec (ws := wsX6_count) B.pre
  have hown : s.vm.findClass RX6 = some m.cls := findClass_of_methodNamed B.named
  have hlocks := B.notSynchronized
  have hC := hG.enter
  have hK := hG.2.2.2.1
  have hi6 : ∀ w ∈ wsX60, w ∈ wsX6_count := by decide +kernel
  have w0 := hts (.fieldLink RX6 72 "MarketSquare" "tradeCount" "I") (by decide +kernel)
  have w1 := hts (.fieldLink RX6 100 "MarketSquare" "traderCount" "I") (by decide +kernel)
  have w2 := hts (.fieldLink RX6 162 "MarketSquare" "time" "I") (by decide +kernel)
  have w3 := hts (.fieldLink RX6 165 "MarketSquare" "days" "I") (by decide +kernel)
  have w4 := hts (.fieldLink RX6 159 "MarketSquare" "hour" "I") (by decide +kernel)
  have w5 := hts (.fieldLink RX6 314 "MarketSquare" "stalls" "I") (by decide +kernel)
  have w6 := hts (.fieldLink RX6 317 "MarketSquare" "fees" "J") (by decide +kernel)
  have w7 := hts (.fieldLink RX6 252 "MarketSquare" "paid" "J") (by decide +kernel)
  have w8 := hts (.fieldLink RX6 320 "MarketSquare" "lost" "J") (by decide +kernel)
  have w9 := hts (.fieldLink RX6 323 "MarketSquare" "given" "J") (by decide +kernel)
  have w10 := hts (.constantLong RX6 326 (-1)) (by decide +kernel)
  have hl := lv_entry ([.ref th, .int p1]) (n := 2) (Nat.le_of_ble_eq_true rfl)
  rw [lg_entry_eq]
  generalize (lg_sl ([.ref th, .int p1]) ++ List.replicate (2 - (lg_sl ([.ref th, .int p1])).length) Slot.unset).toArray = ls at hl ⊢
  have hl : lv_has ls 2 [(0, .ref th), (1, .int p1)] := hl
  unfold f_X6_count at hf
  refine lv_iload_n hx hb dX6_count_0 rfl (lv_at hl 1 rfl) ?_
  by_cases h1 : p1 = 0
  · have hf := zif_t hf h1
    refine z_name h1.symm ?_
    refine lv_tableIn (off := 59) (tgt := 60) hx hb dX6_count_1 (by decide) (by decide) (by decide) (by decide) ?_
    refine lv_aload_n hx hb dX6_count_60 rfl (lv_at hl 0 rfl) ?_
    refine zg_6_5 hx hb hts hi6 hown hK hC hk_th w0 dX6_count_61 ?_
    refine lv_i2l (v := (Int32.toInt64 (zi c 125 th 0))) hx hb dX6_count_64 rfl ?_
    exact z_lret hx hb hr hlocks hC hf dX6_count_65
  have hf := zif_f hf h1
  by_cases h2 : p1 = 1
  · have hf := zif_t hf h2
    refine z_name h2.symm ?_
    refine lv_tableIn (off := 65) (tgt := 66) hx hb dX6_count_1 (by decide) (by decide) (by decide) (by decide) ?_
    refine lv_aload_n hx hb dX6_count_66 rfl (lv_at hl 0 rfl) ?_
    refine zg_6_6 hx hb hts hi6 hown hK hC hk_th w1 dX6_count_67 ?_
    refine lv_i2l (v := (Int32.toInt64 (zi c 126 th 0))) hx hb dX6_count_70 rfl ?_
    exact z_lret hx hb hr hlocks hC hf dX6_count_71
  have hf := zif_f hf h2
  by_cases h3 : p1 = 2
  · have hf := zif_t hf h3
    refine z_name h3.symm ?_
    refine lv_tableIn (off := 71) (tgt := 72) hx hb dX6_count_1 (by decide) (by decide) (by decide) (by decide) ?_
    refine lv_aload_n hx hb dX6_count_72 rfl (lv_at hl 0 rfl) ?_
    refine zg_6_8 hx hb hts hi6 hown hK hC hk_th w2 dX6_count_73 ?_
    refine lv_i2l (v := (Int32.toInt64 (zi c 128 th 0))) hx hb dX6_count_76 rfl ?_
    exact z_lret hx hb hr hlocks hC hf dX6_count_77
  have hf := zif_f hf h3
  by_cases h4 : p1 = 3
  · have hf := zif_t hf h4
    refine z_name h4.symm ?_
    refine lv_tableIn (off := 77) (tgt := 78) hx hb dX6_count_1 (by decide) (by decide) (by decide) (by decide) ?_
    refine lv_aload_n hx hb dX6_count_78 rfl (lv_at hl 0 rfl) ?_
    refine zg_6_9 hx hb hts hi6 hown hK hC hk_th w3 dX6_count_79 ?_
    refine lv_i2l (v := (Int32.toInt64 (zi c 129 th 0))) hx hb dX6_count_82 rfl ?_
    exact z_lret hx hb hr hlocks hC hf dX6_count_83
  have hf := zif_f hf h4
  by_cases h5 : p1 = 4
  · have hf := zif_t hf h5
    refine z_name h5.symm ?_
    refine lv_tableIn (off := 83) (tgt := 84) hx hb dX6_count_1 (by decide) (by decide) (by decide) (by decide) ?_
    refine lv_aload_n hx hb dX6_count_84 rfl (lv_at hl 0 rfl) ?_
    refine zg_6_11 hx hb hts hi6 hown hK hC hk_th w4 dX6_count_85 ?_
    refine lv_i2l (v := (Int32.toInt64 (zi c 131 th 0))) hx hb dX6_count_88 rfl ?_
    exact z_lret hx hb hr hlocks hC hf dX6_count_89
  have hf := zif_f hf h5
  by_cases h6 : p1 = 5
  · have hf := zif_t hf h6
    refine z_name h6.symm ?_
    refine lv_tableIn (off := 89) (tgt := 90) hx hb dX6_count_1 (by decide) (by decide) (by decide) (by decide) ?_
    refine lv_aload_n hx hb dX6_count_90 rfl (lv_at hl 0 rfl) ?_
    refine zg_6_12 hx hb hts hi6 hown hK hC hk_th w5 dX6_count_91 ?_
    refine lv_i2l (v := (Int32.toInt64 (zi c 132 th 0))) hx hb dX6_count_94 rfl ?_
    exact z_lret hx hb hr hlocks hC hf dX6_count_95
  have hf := zif_f hf h6
  by_cases h7 : p1 = 6
  · have hf := zif_t hf h7
    refine z_name h7.symm ?_
    refine lv_tableIn (off := 95) (tgt := 96) hx hb dX6_count_1 (by decide) (by decide) (by decide) (by decide) ?_
    refine lv_aload_n hx hb dX6_count_96 rfl (lv_at hl 0 rfl) ?_
    refine zg_6_14 hx hb hts hi6 hown hK hC hk_th w6 dX6_count_97 ?_
    refine lv_aload_n hx hb dX6_count_100 rfl (lv_at hl 0 rfl) ?_
    refine zg_6_15 hx hb hts hi6 hown hK hC hk_th w7 dX6_count_101 ?_
    refine lv_lsub hx hb dX6_count_104 ?_
    exact z_lret hx hb hr hlocks hC hf dX6_count_105
  have hf := zif_f hf h7
  by_cases h8 : p1 = 7
  · have hf := zif_t hf h8
    refine z_name h8.symm ?_
    refine lv_tableIn (off := 105) (tgt := 106) hx hb dX6_count_1 (by decide) (by decide) (by decide) (by decide) ?_
    refine lv_aload_n hx hb dX6_count_106 rfl (lv_at hl 0 rfl) ?_
    refine zg_6_14 hx hb hts hi6 hown hK hC hk_th w6 dX6_count_107 ?_
    exact z_lret hx hb hr hlocks hC hf dX6_count_110
  have hf := zif_f hf h8
  by_cases h9 : p1 = 8
  · have hf := zif_t hf h9
    refine z_name h9.symm ?_
    refine lv_tableIn (off := 110) (tgt := 111) hx hb dX6_count_1 (by decide) (by decide) (by decide) (by decide) ?_
    refine lv_aload_n hx hb dX6_count_111 rfl (lv_at hl 0 rfl) ?_
    refine zg_6_15 hx hb hts hi6 hown hK hC hk_th w7 dX6_count_112 ?_
    exact z_lret hx hb hr hlocks hC hf dX6_count_115
  have hf := zif_f hf h9
  by_cases h10 : p1 = 9
  · have hf := zif_t hf h10
    refine z_name h10.symm ?_
    refine lv_tableIn (off := 115) (tgt := 116) hx hb dX6_count_1 (by decide) (by decide) (by decide) (by decide) ?_
    refine lv_aload_n hx hb dX6_count_116 rfl (lv_at hl 0 rfl) ?_
    refine zg_6_16 hx hb hts hi6 hown hK hC hk_th w8 dX6_count_117 ?_
    exact z_lret hx hb hr hlocks hC hf dX6_count_120
  have hf := zif_f hf h10
  by_cases h11 : p1 = 10
  · have hf := zif_t hf h11
    refine z_name h11.symm ?_
    refine lv_tableIn (off := 120) (tgt := 121) hx hb dX6_count_1 (by decide) (by decide) (by decide) (by decide) ?_
    refine lv_aload_n hx hb dX6_count_121 rfl (lv_at hl 0 rfl) ?_
    refine zg_6_17 hx hb hts hi6 hown hK hC hk_th w9 dX6_count_122 ?_
    exact z_lret hx hb hr hlocks hC hf dX6_count_125
  have hf := zif_f hf h11
  refine lv_tableOut (tgt := 126) hx hb dX6_count_1 (by have q0 := z_ne (k := 0) (by decide) h1; have q1 := z_ne (k := 1) (by decide) h2; have q2 := z_ne (k := 2) (by decide) h3; have q3 := z_ne (k := 3) (by decide) h4; have q4 := z_ne (k := 4) (by decide) h5; have q5 := z_ne (k := 5) (by decide) h6; have q6 := z_ne (k := 6) (by decide) h7; have q7 := z_ne (k := 7) (by decide) h8; have q8 := z_ne (k := 8) (by decide) h9; have q9 := z_ne (k := 9) (by decide) h10; have q10 := z_ne (k := 10) (by decide) h11; omega) (by decide) ?_
  refine lv_ldc2 (v := (-1)) hx hb hown w10 dX6_count_126 ?_
  exact z_lret hx hb hr hlocks hC hf dX6_count_129
