def f_J6_bitCount_0f7a4 (K : Nat → Nat) (z : Nat) (c : zS) (p1 : Int32) : Option Int32 :=
  zlet (p1 - ((((p1).toUInt32 >>> ((1 : Int32).toUInt32 &&& Int32.toUInt32 31)).toInt32) &&& 1431655765)) fun x1 => zlet ((x1 &&& 858993459) + ((((x1).toUInt32 >>> ((2 : Int32).toUInt32 &&& Int32.toUInt32 31)).toInt32) &&& 858993459)) fun x2 => zlet ((x2 + (((x2).toUInt32 >>> ((4 : Int32).toUInt32 &&& Int32.toUInt32 31)).toInt32)) &&& 252645135) fun x3 => zlet (x3 + (((x3).toUInt32 >>> ((8 : Int32).toUInt32 &&& Int32.toUInt32 31)).toInt32)) fun x4 => zlet (x4 + (((x4).toUInt32 >>> ((16 : Int32).toUInt32 &&& Int32.toUInt32 31)).toInt32)) fun x5 => some (x5 &&& 63)
set_option maxRecDepth 100000 in
set_option maxHeartbeats 4000000 in
theorem c_J6_bitCount_0f7a4 {l : Launch} {D : va_G} {cy : Nat → ClassId} {base : Nat} {st : Nat → Nat} {K : Nat → Nat} {L : List Nat} {c r : zS} {o : Int64} {z : Nat} (p1 : Int32) {rv : Int32}  (hf : f_J6_bitCount_0f7a4 K z c p1 = some rv) : Met l yJ6_bitCount_0f7a4 wsJ6_bitCount_0f7a4 ({ frames := 0, cells := 0, slots := 0, locals := 0 }) (va_Pc [.int p1] (zGW zts0 zns0 D cy base st K L (c, r, o))) (va_Qi (fun (rr : Int32) (_ : Unit) => rr = rv) (fun _ => zB D cy base K L (c, r, o)) (zA base)) 0 0 (zA base) := by
  refine Met.ofW (cc := cJ6_bitCount_0f7a4) (maxL := 1) (ret := (some .int)) (by decide) rfl ?_
  intro p e s m args below meth cd s₁ B hml hv
  obtain ⟨rfl, hG⟩ := hv
  have hx := B.exec
  have hb := B.bytes
  have hr := B.returns
  have hts := atoms_spec (ws := wsJ6_bitCount_0f7a4) B.pre
  have hown : s.vm.findClass RJ6 = some m.cls := findClass_of_methodNamed B.named
  have hlocks := B.notSynchronized
  have hC := hG.enter
  have hK := hG.2.2.2.1
  have w0 := hts (.constant RJ6 265 1431655765) (by decide +kernel)
  have w1 := hts (.constant RJ6 266 858993459) (by decide +kernel)
  have w2 := hts (.constant RJ6 267 252645135) (by decide +kernel)
  have hl := lv_entry ([.int p1]) (n := 1) (Nat.le_of_ble_eq_true rfl)
  rw [lg_entry_eq]
  generalize (lg_sl ([.int p1]) ++ List.replicate (1 - (lg_sl ([.int p1])).length) Slot.unset).toArray = ls at hl ⊢
  have hl : lv_has ls 1 [(0, .int p1)] := hl
  unfold f_J6_bitCount_0f7a4 at hf
  refine lv_iload_n hx hb dJ6_bitCount_0f7a4_0 rfl (lv_at hl 0 rfl) ?_
  refine lv_iload_n hx hb dJ6_bitCount_0f7a4_1 rfl (lv_at hl 0 rfl) ?_
  refine lv_iconst (v := 1) hx hb dJ6_bitCount_0f7a4_2 (by decide) ?_
  refine lv_iushr hx hb dJ6_bitCount_0f7a4_3 rfl ?_
  refine lv_ldcw (v := 1431655765) hx hb hown w0 dJ6_bitCount_0f7a4_4 ?_
  refine lv_iand hx hb dJ6_bitCount_0f7a4_7 ?_
  refine lv_isub hx hb dJ6_bitCount_0f7a4_8 ?_
  obtain ⟨x1, ex1, hf⟩ := zlet_inv hf
  refine z_name ex1 ?_
  refine lv_istore_n (lv' := [(0, .int x1)]) hx hb dJ6_bitCount_0f7a4_9 rfl hl (by decide) rfl (fun ls hl => ?_)
  refine lv_iload_n hx hb dJ6_bitCount_0f7a4_10 rfl (lv_at hl 0 rfl) ?_
  refine lv_ldcw (v := 858993459) hx hb hown w1 dJ6_bitCount_0f7a4_11 ?_
  refine lv_iand hx hb dJ6_bitCount_0f7a4_14 ?_
  refine lv_iload_n hx hb dJ6_bitCount_0f7a4_15 rfl (lv_at hl 0 rfl) ?_
  refine lv_iconst (v := 2) hx hb dJ6_bitCount_0f7a4_16 (by decide) ?_
  refine lv_iushr hx hb dJ6_bitCount_0f7a4_17 rfl ?_
  refine lv_ldcw (v := 858993459) hx hb hown w1 dJ6_bitCount_0f7a4_18 ?_
  refine lv_iand hx hb dJ6_bitCount_0f7a4_21 ?_
  refine lv_iadd hx hb dJ6_bitCount_0f7a4_22 ?_
  obtain ⟨x2, ex2, hf⟩ := zlet_inv hf
  refine z_name ex2 ?_
  refine lv_istore_n (lv' := [(0, .int x2)]) hx hb dJ6_bitCount_0f7a4_23 rfl hl (by decide) rfl (fun ls hl => ?_)
  refine lv_iload_n hx hb dJ6_bitCount_0f7a4_24 rfl (lv_at hl 0 rfl) ?_
  refine lv_iload_n hx hb dJ6_bitCount_0f7a4_25 rfl (lv_at hl 0 rfl) ?_
  refine lv_iconst (v := 4) hx hb dJ6_bitCount_0f7a4_26 (by decide) ?_
  refine lv_iushr hx hb dJ6_bitCount_0f7a4_27 rfl ?_
  refine lv_iadd hx hb dJ6_bitCount_0f7a4_28 ?_
  refine lv_ldcw (v := 252645135) hx hb hown w2 dJ6_bitCount_0f7a4_29 ?_
  refine lv_iand hx hb dJ6_bitCount_0f7a4_32 ?_
  obtain ⟨x3, ex3, hf⟩ := zlet_inv hf
  refine z_name ex3 ?_
  refine lv_istore_n (lv' := [(0, .int x3)]) hx hb dJ6_bitCount_0f7a4_33 rfl hl (by decide) rfl (fun ls hl => ?_)
  refine lv_iload_n hx hb dJ6_bitCount_0f7a4_34 rfl (lv_at hl 0 rfl) ?_
  refine lv_iload_n hx hb dJ6_bitCount_0f7a4_35 rfl (lv_at hl 0 rfl) ?_
  refine lv_bipush (v := 8) hx hb dJ6_bitCount_0f7a4_36 (by decide) ?_
  refine lv_iushr hx hb dJ6_bitCount_0f7a4_38 rfl ?_
  refine lv_iadd hx hb dJ6_bitCount_0f7a4_39 ?_
  obtain ⟨x4, ex4, hf⟩ := zlet_inv hf
  refine z_name ex4 ?_
  refine lv_istore_n (lv' := [(0, .int x4)]) hx hb dJ6_bitCount_0f7a4_40 rfl hl (by decide) rfl (fun ls hl => ?_)
  refine lv_iload_n hx hb dJ6_bitCount_0f7a4_41 rfl (lv_at hl 0 rfl) ?_
  refine lv_iload_n hx hb dJ6_bitCount_0f7a4_42 rfl (lv_at hl 0 rfl) ?_
  refine lv_bipush (v := 16) hx hb dJ6_bitCount_0f7a4_43 (by decide) ?_
  refine lv_iushr hx hb dJ6_bitCount_0f7a4_45 rfl ?_
  refine lv_iadd hx hb dJ6_bitCount_0f7a4_46 ?_
  obtain ⟨x5, ex5, hf⟩ := zlet_inv hf
  refine z_name ex5 ?_
  refine lv_istore_n (lv' := [(0, .int x5)]) hx hb dJ6_bitCount_0f7a4_47 rfl hl (by decide) rfl (fun ls hl => ?_)
  refine lv_iload_n hx hb dJ6_bitCount_0f7a4_48 rfl (lv_at hl 0 rfl) ?_
  refine lv_bipush (v := 63) hx hb dJ6_bitCount_0f7a4_49 (by decide) ?_
  refine lv_iand hx hb dJ6_bitCount_0f7a4_51 ?_
  exact z_iret hx hb hr hlocks hC hf dJ6_bitCount_0f7a4_52
def f_X6_rowOrNull (K : Nat → Nat) (z : Nat) (c : zS) (th : Nat) (p1 : Int32) : Option (Option Nat) :=
  (if p1 < 0 then some none else (if 40 ≤ p1 then some none else zn K (zr c 120 th 0) 11 fun a1 => zx p1 40 <| zn K (zr c 143 a1 (Int32.toNatClampNeg p1)) 0 fun a2 => some (some a2)))
set_option maxRecDepth 100000 in
set_option maxHeartbeats 4000000 in
theorem c_X6_rowOrNull {l : Launch} {D : va_G} {cy : Nat → ClassId} {base : Nat} {st : Nat → Nat} {K : Nat → Nat} {L : List Nat} {c r : zS} {o : Int64} {z : Nat} (th : Nat) (p1 : Int32) {rv : Option Nat}  (hk_th : K th = 6) (hf : f_X6_rowOrNull K z c th p1 = some rv) : Met l yX6_rowOrNull wsX6_rowOrNull ({ frames := 0, cells := 0, slots := 0, locals := 0 }) (va_Pc [.ref th, .int p1] (zGW zts0 zns0 D cy base st K L (c, r, o))) (va_Qq (fun (rr : Option Nat) (_ : Unit) => rr = rv) (fun _ => zB D cy base K L (c, r, o)) (zA base)) 0 0 (zA base) := by
  refine Met.ofW (cc := cX6_rowOrNull) (maxL := 2) (ret := (some (.object "MarketSquare$Row"))) (by decide) rfl ?_
  intro p e s m args below meth cd s₁ B hml hv
  obtain ⟨rfl, hG⟩ := hv
  have hx := B.exec
  have hb := B.bytes
  have hr := B.returns
  have hts := atoms_spec (ws := wsX6_rowOrNull) B.pre
  have hown : s.vm.findClass RX6 = some m.cls := findClass_of_methodNamed B.named
  have hlocks := B.notSynchronized
  have hC := hG.enter
  have hK := hG.2.2.2.1
  have hi6 : ∀ w ∈ wsX60, w ∈ wsX6_rowOrNull := by decide +kernel
  have w0 := hts (.fieldLink RX6 11 "MarketSquare" "rows" "[LMarketSquare$Row;") (by decide +kernel)
  have hl := lv_entry ([.ref th, .int p1]) (n := 2) (Nat.le_of_ble_eq_true rfl)
  rw [lg_entry_eq]
  generalize (lg_sl ([.ref th, .int p1]) ++ List.replicate (2 - (lg_sl ([.ref th, .int p1])).length) Slot.unset).toArray = ls at hl ⊢
  have hl : lv_has ls 2 [(0, .ref th), (1, .int p1)] := hl
  unfold f_X6_rowOrNull at hf
  refine lv_iload_n hx hb dX6_rowOrNull_0 rfl (lv_at hl 1 rfl) ?_
  refine lv_if_lt (tgt := 19) hx hb dX6_rowOrNull_1 (by decide) (fun h4 => ?_) (fun h4 => ?_)
  · have hf := zif_t hf h4
    refine lv_null hx hb dX6_rowOrNull_19 ?_
    exact z_qret (x := none) hx hb hr hlocks hC hf dX6_rowOrNull_20
  · have hf := zif_f hf h4
    refine lv_iload_n hx hb dX6_rowOrNull_4 rfl (lv_at hl 1 rfl) ?_
    refine lv_bipush (v := 40) hx hb dX6_rowOrNull_5 (by decide) ?_
    refine lv_icmp_ge (tgt := 19) hx hb dX6_rowOrNull_7 (by decide) (fun h3 => ?_) (fun h3 => ?_)
    · have hf := zif_t hf h3
      refine lv_null hx hb dX6_rowOrNull_19 ?_
      exact z_qret (x := none) hx hb hr hlocks hC hf dX6_rowOrNull_20
    · have hf := zif_f hf h3
      refine lv_aload_n hx hb dX6_rowOrNull_10 rfl (lv_at hl 0 rfl) ?_
      refine zg_6_0 hx hb hts hi6 hown hK hC hk_th w0 dX6_rowOrNull_11 ?_
      obtain ⟨a1, ea1, hk_a1, hf⟩ := zn_inv hf
      refine z_ref ea1 ?_
      refine lv_iload_n hx hb dX6_rowOrNull_14 rfl (lv_at hl 1 rfl) ?_
      obtain ⟨hix, hf⟩ := zx_inv hf
      refine xg_11 hx hb hK hC hk_a1 hix dX6_rowOrNull_15 ?_
      obtain ⟨a2, ea2, hk_a2, hf⟩ := zn_inv hf
      refine z_ref ea2 ?_
      refine lv_goto (tgt := 20) hx hb dX6_rowOrNull_16 (by decide) ?_
      exact z_qret (x := (some a2)) hx hb hr hlocks hC hf dX6_rowOrNull_20
def f_X0_hasAll (K : Nat → Nat) (z : Nat) (c : zS) (th : Nat) (p1 : Int32) (p2 : Int32) : Option Int32 :=
  (if p1 < 0 then some 0 else (if ((zi c 2 th 0) - p2) < p1 then some 0 else some 1))
set_option maxRecDepth 100000 in
set_option maxHeartbeats 4000000 in
theorem c_X0_hasAll {l : Launch} {D : va_G} {cy : Nat → ClassId} {base : Nat} {st : Nat → Nat} {K : Nat → Nat} {L : List Nat} {c r : zS} {o : Int64} {z : Nat} (th : Nat) (p1 : Int32) (p2 : Int32) {rv : Int32}  (hk_th : K th = 0) (hf : f_X0_hasAll K z c th p1 p2 = some rv) : Met l yX0_hasAll wsX0_hasAll ({ frames := 0, cells := 0, slots := 0, locals := 0 }) (va_Pc [.ref th, .int p1, .int p2] (zGW zts0 zns0 D cy base st K L (c, r, o))) (va_Qi (fun (rr : Int32) (_ : Unit) => rr = rv) (fun _ => zB D cy base K L (c, r, o)) (zA base)) 0 0 (zA base) := by
  refine Met.ofW (cc := cX0_hasAll) (maxL := 3) (ret := (some .boolean)) (by decide) rfl ?_
  intro p e s m args below meth cd s₁ B hml hv
  obtain ⟨rfl, hG⟩ := hv
  have hx := B.exec
  have hb := B.bytes
  have hr := B.returns
  have hts := atoms_spec (ws := wsX0_hasAll) B.pre
  have hown : s.vm.findClass RX0 = some m.cls := findClass_of_methodNamed B.named
  have hlocks := B.notSynchronized
  have hC := hG.enter
  have hK := hG.2.2.2.1
  have hi0 : ∀ w ∈ wsX00, w ∈ wsX0_hasAll := by decide +kernel
  have w0 := hts (.fieldLink RX0 21 "MarketSquare$Row" "places" "I") (by decide +kernel)
  have hl := lv_entry ([.ref th, .int p1, .int p2]) (n := 3) (Nat.le_of_ble_eq_true rfl)
  rw [lg_entry_eq]
  generalize (lg_sl ([.ref th, .int p1, .int p2]) ++ List.replicate (3 - (lg_sl ([.ref th, .int p1, .int p2])).length) Slot.unset).toArray = ls at hl ⊢
  have hl : lv_has ls 3 [(0, .ref th), (1, .int p1), (2, .int p2)] := hl
  unfold f_X0_hasAll at hf
  refine lv_iload_n hx hb dX0_hasAll_0 rfl (lv_at hl 1 rfl) ?_
  refine lv_if_lt (tgt := 18) hx hb dX0_hasAll_1 (by decide) (fun h2 => ?_) (fun h2 => ?_)
  · have hf := zif_t hf h2
    refine lv_iconst (v := 0) hx hb dX0_hasAll_18 (by decide) ?_
    exact z_zret hx hb hr hlocks hC (Or.inl rfl) hf dX0_hasAll_19
  · have hf := zif_f hf h2
    refine lv_iload_n hx hb dX0_hasAll_4 rfl (lv_at hl 1 rfl) ?_
    refine lv_aload_n hx hb dX0_hasAll_5 rfl (lv_at hl 0 rfl) ?_
    refine zg_0_2 hx hb hts hi0 hown hK hC hk_th w0 dX0_hasAll_6 ?_
    refine lv_iload_n hx hb dX0_hasAll_9 rfl (lv_at hl 2 rfl) ?_
    refine lv_isub hx hb dX0_hasAll_10 ?_
    refine lv_icmp_gt (tgt := 18) hx hb dX0_hasAll_11 (by decide) (fun h1 => ?_) (fun h1 => ?_)
    · have hf := zif_t hf h1
      refine lv_iconst (v := 0) hx hb dX0_hasAll_18 (by decide) ?_
      exact z_zret hx hb hr hlocks hC (Or.inl rfl) hf dX0_hasAll_19
    · have hf := zif_f hf h1
      refine lv_iconst (v := 1) hx hb dX0_hasAll_14 (by decide) ?_
      refine lv_goto (tgt := 19) hx hb dX0_hasAll_15 (by decide) ?_
      exact z_zret hx hb hr hlocks hC (Or.inr rfl) hf dX0_hasAll_19
def f_X0_has (K : Nat → Nat) (z : Nat) (c : zS) (th : Nat) (p1 : Int32) : Option Int32 :=
  (if p1 < 0 then some 0 else (if (zi c 2 th 0) ≤ p1 then some 0 else some 1))
set_option maxRecDepth 100000 in
set_option maxHeartbeats 4000000 in
theorem c_X0_has {l : Launch} {D : va_G} {cy : Nat → ClassId} {base : Nat} {st : Nat → Nat} {K : Nat → Nat} {L : List Nat} {c r : zS} {o : Int64} {z : Nat} (th : Nat) (p1 : Int32) {rv : Int32}  (hk_th : K th = 0) (hf : f_X0_has K z c th p1 = some rv) : Met l yX0_has wsX0_has ({ frames := 0, cells := 0, slots := 0, locals := 0 }) (va_Pc [.ref th, .int p1] (zGW zts0 zns0 D cy base st K L (c, r, o))) (va_Qi (fun (rr : Int32) (_ : Unit) => rr = rv) (fun _ => zB D cy base K L (c, r, o)) (zA base)) 0 0 (zA base) := by
  refine Met.ofW (cc := cX0_has) (maxL := 2) (ret := (some .boolean)) (by decide) rfl ?_
  intro p e s m args below meth cd s₁ B hml hv
  obtain ⟨rfl, hG⟩ := hv
  have hx := B.exec
  have hb := B.bytes
  have hr := B.returns
  have hts := atoms_spec (ws := wsX0_has) B.pre
  have hown : s.vm.findClass RX0 = some m.cls := findClass_of_methodNamed B.named
  have hlocks := B.notSynchronized
  have hC := hG.enter
  have hK := hG.2.2.2.1
  have hi0 : ∀ w ∈ wsX00, w ∈ wsX0_has := by decide +kernel
  have w0 := hts (.fieldLink RX0 21 "MarketSquare$Row" "places" "I") (by decide +kernel)
  have hl := lv_entry ([.ref th, .int p1]) (n := 2) (Nat.le_of_ble_eq_true rfl)
  rw [lg_entry_eq]
  generalize (lg_sl ([.ref th, .int p1]) ++ List.replicate (2 - (lg_sl ([.ref th, .int p1])).length) Slot.unset).toArray = ls at hl ⊢
  have hl : lv_has ls 2 [(0, .ref th), (1, .int p1)] := hl
  unfold f_X0_has at hf
  refine lv_iload_n hx hb dX0_has_0 rfl (lv_at hl 1 rfl) ?_
  refine lv_if_lt (tgt := 16) hx hb dX0_has_1 (by decide) (fun h2 => ?_) (fun h2 => ?_)
  · have hf := zif_t hf h2
    refine lv_iconst (v := 0) hx hb dX0_has_16 (by decide) ?_
    exact z_zret hx hb hr hlocks hC (Or.inl rfl) hf dX0_has_17
  · have hf := zif_f hf h2
    refine lv_iload_n hx hb dX0_has_4 rfl (lv_at hl 1 rfl) ?_
    refine lv_aload_n hx hb dX0_has_5 rfl (lv_at hl 0 rfl) ?_
    refine zg_0_2 hx hb hts hi0 hown hK hC hk_th w0 dX0_has_6 ?_
    refine lv_icmp_ge (tgt := 16) hx hb dX0_has_9 (by decide) (fun h1 => ?_) (fun h1 => ?_)
    · have hf := zif_t hf h1
      refine lv_iconst (v := 0) hx hb dX0_has_16 (by decide) ?_
      exact z_zret hx hb hr hlocks hC (Or.inl rfl) hf dX0_has_17
    · have hf := zif_f hf h1
      refine lv_iconst (v := 1) hx hb dX0_has_12 (by decide) ?_
      refine lv_goto (tgt := 17) hx hb dX0_has_13 (by decide) ?_
      exact z_zret hx hb hr hlocks hC (Or.inr rfl) hf dX0_has_17
def f_X0_isMarked_3 (K : Nat → Nat) (z : Nat) (c : zS) (th : Nat) (p1 : Int32) (p2 : Int32) (p3 : Int32) : Nat → Int32 → Option Int32
  | 0, _ => none
  | n + 1, v4 =>
    (if p2 ≤ v4 then some 0 else zb (f_X0_has K z c th (p1 + v4)) fun x2 => (if x2 = 0 then zlet (v4 + 1) fun x3 => f_X0_isMarked_3 K z c th p1 p2 p3 n x3 else zn K (zr c 0 th 0) 8 fun a4 => zx (p1 + v4) 200 <| (if ((zi c 140 a4 (Int32.toNatClampNeg (p1 + v4))) &&& p3) = 0 then zlet (v4 + 1) fun x5 => f_X0_isMarked_3 K z c th p1 p2 p3 n x5 else some 1)))
def f_X0_isMarked (K : Nat → Nat) (z : Nat) (c : zS) (th : Nat) (p1 : Int32) (p2 : Int32) (p3 : Int32) : Option Int32 :=
  f_X0_isMarked_3 K z c th p1 p2 p3 z 0
set_option maxRecDepth 100000 in
set_option maxHeartbeats 4000000 in
theorem c_X0_isMarked {l : Launch} {D : va_G} {cy : Nat → ClassId} {base : Nat} {st : Nat → Nat} {K : Nat → Nat} {L : List Nat} {c r : zS} {o : Int64} {z : Nat} (th : Nat) (p1 : Int32) (p2 : Int32) (p3 : Int32) {rv : Int32}  (hk_th : K th = 0) (hf : f_X0_isMarked K z c th p1 p2 p3 = some rv) : Met l yX0_isMarked wsX0_isMarked ({ frames := 1, cells := 0, slots := 0, locals := 21 }) (va_Pc [.ref th, .int p1, .int p2, .int p3] (zGW zts0 zns0 D cy base st K L (c, r, o))) (va_Qi (fun (rr : Int32) (_ : Unit) => rr = rv) (fun _ => zB D cy base K L (c, r, o)) (zA base)) 0 0 (zA base) := by
  refine Met.ofW (cc := cX0_isMarked) (maxL := 5) (ret := (some .boolean)) (by decide) rfl ?_
  intro p e s m args below meth cd s₁ B hml hv
  obtain ⟨rfl, hG⟩ := hv
  have hx := B.exec
  have hb := B.bytes
  have hr := B.returns
  have hts := atoms_spec (ws := wsX0_isMarked) B.pre
  have hown : s.vm.findClass RX0 = some m.cls := findClass_of_methodNamed B.named
  have hlocks := B.notSynchronized
  have hC := hG.enter
  have hK := hG.2.2.2.1
  have hi0 : ∀ w ∈ wsX00, w ∈ wsX0_isMarked := by decide +kernel
  have w0 := hts (.fieldLink RX0 9 "MarketSquare$Row" "marks" "[I") (by decide +kernel)
  have hl := lv_entry ([.ref th, .int p1, .int p2, .int p3]) (n := 5) (Nat.le_of_ble_eq_true rfl)
  rw [lg_entry_eq]
  generalize (lg_sl ([.ref th, .int p1, .int p2, .int p3]) ++ List.replicate (5 - (lg_sl ([.ref th, .int p1, .int p2, .int p3])).length) Slot.unset).toArray = ls at hl ⊢
  have hl : lv_has ls 5 [(0, .ref th), (1, .int p1), (2, .int p2), (3, .int p3)] := hl
  have L3 : ∀ (n3 : Nat) (H : Heap) (locs : List Loc) (ls : Array Slot) (v4 : Int32), zC D cy base K L (c, r, o) s.heap H locs → lv_has ls 5 [(0, .ref th), (1, .int p1), (2, .int p2), (3, .int p3), (4, .int v4)] → f_X0_isMarked_3 K z c th p1 p2 p3 n3 v4 = some rv → W p l e (headSpec wsX0_isMarked ({ frames := 1, cells := 0, slots := 0, locals := 21 })).room s m ([.ref th, .int p1, .int p2, .int p3] : List Value).toArray below meth cd H locs 0 0 (MQ below (va_Qi (fun (rr : Int32) (_ : Unit) => rr = rv) (fun _ => zB D cy base K L (c, r, o)) (zA base)) ([.ref th, .int p1, .int p2, .int p3] : List Value).toArray s 0 0 (zA base)) (F0 m 3 ls []) := by
    intro n3
    induction n3 with
    | zero => intro H locs ls v4 hC hl hf; rw [f_X0_isMarked_3] at hf; cases hf
    | succ n3 ih3 =>
      intro H locs ls v4 hC hl hf
      rw [f_X0_isMarked_3] at hf
      refine lv_iload hx hb dX0_isMarked_3 (lv_at hl 4 rfl) ?_
      refine lv_iload_n hx hb dX0_isMarked_5 rfl (lv_at hl 2 rfl) ?_
      refine lv_icmp_ge (tgt := 42) hx hb dX0_isMarked_6 (by decide) (fun h8 => ?_) (fun h8 => ?_)
      · have hf := zif_t hf h8
        refine lv_iconst (v := 0) hx hb dX0_isMarked_42 (by decide) ?_
        exact z_zret hx hb hr hlocks hC (Or.inl rfl) hf dX0_isMarked_43
      · have hf := zif_f hf h8
        refine lv_aload_n hx hb dX0_isMarked_9 rfl (lv_at hl 0 rfl) ?_
        refine lv_iload_n hx hb dX0_isMarked_10 rfl (lv_at hl 1 rfl) ?_
        refine lv_iload hx hb dX0_isMarked_11 (lv_at hl 4 rfl) ?_
        refine lv_iadd hx hb dX0_isMarked_13 ?_
        obtain ⟨x2, hc1, hf⟩ := zb_inv hf
        refine z_ci (z_rV (As := [.int (p1 + v4)]) (rest := []) ⟨hx, hb, hml, hown, hts⟩ (c_X0_has (l := l) (D := D) (cy := cy) (base := base) (st := st) (K := K) (L := L) (c := c) (r := r) (o := o) (z := z) th (p1 + v4) hk_th hc1) (cwV 1 hts gX0_isMarked_X0_has rfl rfl rfl (by decide +kernel) ⟨Nat.le_of_ble_eq_true rfl, Nat.le_of_ble_eq_true rfl⟩) hG hC (zC.recv (ci := 0) (fs := _) hK hC (by rw [hk_th]; decide) (by rw [hk_th]; exact zc_0 cy _ _) rfl) rfl hl.1 rfl (lv_room (Nat.le_of_ble_eq_true rfl)) dX0_isMarked_14 ⟨Nat.le_of_ble_eq_true rfl, Nat.le_of_ble_eq_true rfl⟩) hC (fun H locs hC => ?_)
        refine lv_if_eq (tgt := 36) hx hb dX0_isMarked_17 (by decide) (fun h7 => ?_) (fun h7 => ?_)
        · have hf := zif_t hf h7
          obtain ⟨x3, ex3, hf⟩ := zlet_inv hf
          refine lv_iinc (v := x3) (lv' := [(4, .int x3), (0, .ref th), (1, .int p1), (2, .int p2), (3, .int p3)]) hx hb dX0_isMarked_36 hl (k := 4) rfl (by rw [ex3]; rfl) (by decide) rfl (fun ls hl => ?_)
          refine lv_goto (tgt := 3) hx hb dX0_isMarked_39 (by decide) ?_
          exact ih3 _ _ _ x3 hC (lv_sub hl [1, 2, 3, 4, 0] rfl) hf
        · have hf := zif_f hf h7
          refine lv_aload_n hx hb dX0_isMarked_20 rfl (lv_at hl 0 rfl) ?_
          refine zg_0_0 hx hb hts hi0 hown hK hC hk_th w0 dX0_isMarked_21 ?_
          obtain ⟨a4, ea4, hk_a4, hf⟩ := zn_inv hf
          refine z_ref ea4 ?_
          refine lv_iload_n hx hb dX0_isMarked_24 rfl (lv_at hl 1 rfl) ?_
          refine lv_iload hx hb dX0_isMarked_25 (lv_at hl 4 rfl) ?_
          refine lv_iadd hx hb dX0_isMarked_27 ?_
          obtain ⟨hix, hf⟩ := zx_inv hf
          refine xg_8 hx hb hK hC hk_a4 hix dX0_isMarked_28 ?_
          refine lv_iload_n hx hb dX0_isMarked_29 rfl (lv_at hl 3 rfl) ?_
          refine lv_iand hx hb dX0_isMarked_30 ?_
          refine lv_if_eq (tgt := 36) hx hb dX0_isMarked_31 (by decide) (fun h6 => ?_) (fun h6 => ?_)
          · have hf := zif_t hf h6
            obtain ⟨x5, ex5, hf⟩ := zlet_inv hf
            refine lv_iinc (v := x5) (lv' := [(4, .int x5), (0, .ref th), (1, .int p1), (2, .int p2), (3, .int p3)]) hx hb dX0_isMarked_36 hl (k := 4) rfl (by rw [ex5]; rfl) (by decide) rfl (fun ls hl => ?_)
            refine lv_goto (tgt := 3) hx hb dX0_isMarked_39 (by decide) ?_
            exact ih3 _ _ _ x5 hC (lv_sub hl [1, 2, 3, 4, 0] rfl) hf
          · have hf := zif_f hf h6
            refine lv_iconst (v := 1) hx hb dX0_isMarked_34 (by decide) ?_
            exact z_zret hx hb hr hlocks hC (Or.inr rfl) hf dX0_isMarked_35
  unfold f_X0_isMarked at hf
  refine lv_iconst (v := 0) hx hb dX0_isMarked_0 (by decide) ?_
  refine lv_istore (lv' := [(4, .int 0), (0, .ref th), (1, .int p1), (2, .int p2), (3, .int p3)]) hx hb dX0_isMarked_1 hl (by decide) rfl (fun ls hl => ?_)
  exact L3 z _ _ _ 0 hC (lv_sub hl [1, 2, 3, 4, 0] rfl) hf
def f_X0_holderAt (K : Nat → Nat) (z : Nat) (c : zS) (th : Nat) (p1 : Int32) : Option (Option Nat) :=
  zb (f_X0_has K z c th p1) fun x2 => (if x2 = 0 then some none else zn K (zr c 1 th 0) 16 fun a3 => zx p1 200 <| zlet (zr c 148 a3 (Int32.toNatClampNeg p1)) fun o4 => some o4)
set_option maxRecDepth 100000 in
set_option maxHeartbeats 4000000 in
theorem c_X0_holderAt {l : Launch} {D : va_G} {cy : Nat → ClassId} {base : Nat} {st : Nat → Nat} {K : Nat → Nat} {L : List Nat} {c r : zS} {o : Int64} {z : Nat} (th : Nat) (p1 : Int32) {rv : Option Nat}  (hk_th : K th = 0) (hf : f_X0_holderAt K z c th p1 = some rv) : Met l yX0_holderAt wsX0_holderAt ({ frames := 1, cells := 0, slots := 0, locals := 21 }) (va_Pc [.ref th, .int p1] (zGW zts0 zns0 D cy base st K L (c, r, o))) (va_Qq (fun (rr : Option Nat) (_ : Unit) => rr = rv) (fun _ => zB D cy base K L (c, r, o)) (zA base)) 0 0 (zA base) := by
  refine Met.ofW (cc := cX0_holderAt) (maxL := 2) (ret := (some (.object "MarketSquare$Trader"))) (by decide) rfl ?_
  intro p e s m args below meth cd s₁ B hml hv
  obtain ⟨rfl, hG⟩ := hv
  have hx := B.exec
  have hb := B.bytes
  have hr := B.returns
  have hts := atoms_spec (ws := wsX0_holderAt) B.pre
  have hown : s.vm.findClass RX0 = some m.cls := findClass_of_methodNamed B.named
  have hlocks := B.notSynchronized
  have hC := hG.enter
  have hK := hG.2.2.2.1
  have hi0 : ∀ w ∈ wsX00, w ∈ wsX0_holderAt := by decide +kernel
  have w0 := hts (.fieldLink RX0 17 "MarketSquare$Row" "holders" "[LMarketSquare$Trader;") (by decide +kernel)
  have hl := lv_entry ([.ref th, .int p1]) (n := 2) (Nat.le_of_ble_eq_true rfl)
  rw [lg_entry_eq]
  generalize (lg_sl ([.ref th, .int p1]) ++ List.replicate (2 - (lg_sl ([.ref th, .int p1])).length) Slot.unset).toArray = ls at hl ⊢
  have hl : lv_has ls 2 [(0, .ref th), (1, .int p1)] := hl
  unfold f_X0_holderAt at hf
  refine lv_aload_n hx hb dX0_holderAt_0 rfl (lv_at hl 0 rfl) ?_
  refine lv_iload_n hx hb dX0_holderAt_1 rfl (lv_at hl 1 rfl) ?_
  obtain ⟨x2, hc1, hf⟩ := zb_inv hf
  refine z_ci (z_rV (As := [.int p1]) (rest := []) ⟨hx, hb, hml, hown, hts⟩ (c_X0_has (l := l) (D := D) (cy := cy) (base := base) (st := st) (K := K) (L := L) (c := c) (r := r) (o := o) (z := z) th p1 hk_th hc1) (cwV 1 hts gX0_holderAt_X0_has rfl rfl rfl (by decide +kernel) ⟨Nat.le_of_ble_eq_true rfl, Nat.le_of_ble_eq_true rfl⟩) hG hC (zC.recv (ci := 0) (fs := _) hK hC (by rw [hk_th]; decide) (by rw [hk_th]; exact zc_0 cy _ _) rfl) rfl hl.1 rfl (lv_room (Nat.le_of_ble_eq_true rfl)) dX0_holderAt_2 ⟨Nat.le_of_ble_eq_true rfl, Nat.le_of_ble_eq_true rfl⟩) hC (fun H locs hC => ?_)
  refine lv_if_eq (tgt := 17) hx hb dX0_holderAt_5 (by decide) (fun h5 => ?_) (fun h5 => ?_)
  · have hf := zif_t hf h5
    refine lv_null hx hb dX0_holderAt_17 ?_
    exact z_qret (x := none) hx hb hr hlocks hC hf dX0_holderAt_18
  · have hf := zif_f hf h5
    refine lv_aload_n hx hb dX0_holderAt_8 rfl (lv_at hl 0 rfl) ?_
    refine zg_0_1 hx hb hts hi0 hown hK hC hk_th w0 dX0_holderAt_9 ?_
    obtain ⟨a3, ea3, hk_a3, hf⟩ := zn_inv hf
    refine z_ref ea3 ?_
    refine lv_iload_n hx hb dX0_holderAt_12 rfl (lv_at hl 1 rfl) ?_
    obtain ⟨hix, hf⟩ := zx_inv hf
    refine xg_16 hx hb hK hC hk_a3 hix dX0_holderAt_13 ?_
    obtain ⟨o4, eo4, hf⟩ := zlet_inv hf
    refine z_nameo eo4 ?_
    refine lv_goto (tgt := 18) hx hb dX0_holderAt_14 (by decide) ?_
    exact z_qret (x := o4) hx hb hr hlocks hC hf dX0_holderAt_18
def f_X0_isTakenByOther_2 (K : Nat → Nat) (z : Nat) (c : zS) (th : Nat) (t1 : Nat) (p2 : Int32) : Nat → Int32 → Option Int32
  | 0, _ => none
  | n + 1, v3 =>
    (if (zi c 82 t1 0) ≤ v3 then some 0 else zb (f_X0_holderAt K z c th (p2 + v3)) fun o2 => zo K o2 4 (zlet (v3 + 1) fun x4 => f_X0_isTakenByOther_2 K z c th t1 p2 n x4) fun a3 => (if a3 = t1 then zlet (v3 + 1) fun x5 => f_X0_isTakenByOther_2 K z c th t1 p2 n x5 else some 1))
def f_X0_isTakenByOther (K : Nat → Nat) (z : Nat) (c : zS) (th : Nat) (t1 : Nat) (p2 : Int32) : Option Int32 :=
  f_X0_isTakenByOther_2 K z c th t1 p2 z 0
set_option maxRecDepth 100000 in
set_option maxHeartbeats 4000000 in
theorem c_X0_isTakenByOther {l : Launch} {D : va_G} {cy : Nat → ClassId} {base : Nat} {st : Nat → Nat} {K : Nat → Nat} {L : List Nat} {c r : zS} {o : Int64} {z : Nat} (th : Nat) (t1 : Nat) (p2 : Int32) {rv : Int32}  (hk_th : K th = 0) (hk_t1 : K t1 = 4) (hf : f_X0_isTakenByOther K z c th t1 p2 = some rv) : Met l yX0_isTakenByOther wsX0_isTakenByOther ({ frames := 2, cells := 0, slots := 0, locals := 42 }) (va_Pc [.ref th, .ref t1, .int p2] (zGW zts0 zns0 D cy base st K L (c, r, o))) (va_Qi (fun (rr : Int32) (_ : Unit) => rr = rv) (fun _ => zB D cy base K L (c, r, o)) (zA base)) 0 0 (zA base) := by
  refine Met.ofW (cc := cX0_isTakenByOther) (maxL := 5) (ret := (some .boolean)) (by decide) rfl ?_
  intro p e s m args below meth cd s₁ B hml hv
  obtain ⟨rfl, hG⟩ := hv
  have hx := B.exec
  have hb := B.bytes
  have hr := B.returns
  have hts := atoms_spec (ws := wsX0_isTakenByOther) B.pre
  have hown : s.vm.findClass RX0 = some m.cls := findClass_of_methodNamed B.named
  have hlocks := B.notSynchronized
  have hC := hG.enter
  have hK := hG.2.2.2.1
  have hi4 : ∀ w ∈ wsX40, w ∈ wsX0_isTakenByOther := by decide +kernel
  have w0 := hts (.fieldLink RX0 29 "MarketSquare$Trader" "front" "I") (by decide +kernel)
  have hl := lv_entry ([.ref th, .ref t1, .int p2]) (n := 5) (Nat.le_of_ble_eq_true rfl)
  rw [lg_entry_eq]
  generalize (lg_sl ([.ref th, .ref t1, .int p2]) ++ List.replicate (5 - (lg_sl ([.ref th, .ref t1, .int p2])).length) Slot.unset).toArray = ls at hl ⊢
  have hl : lv_has ls 5 [(0, .ref th), (1, .ref t1), (2, .int p2)] := hl
  have L2 : ∀ (n2 : Nat) (H : Heap) (locs : List Loc) (ls : Array Slot) (v3 : Int32), zC D cy base K L (c, r, o) s.heap H locs → lv_has ls 5 [(0, .ref th), (1, .ref t1), (2, .int p2), (3, .int v3)] → f_X0_isTakenByOther_2 K z c th t1 p2 n2 v3 = some rv → W p l e (headSpec wsX0_isTakenByOther ({ frames := 2, cells := 0, slots := 0, locals := 42 })).room s m ([.ref th, .ref t1, .int p2] : List Value).toArray below meth cd H locs 0 0 (MQ below (va_Qi (fun (rr : Int32) (_ : Unit) => rr = rv) (fun _ => zB D cy base K L (c, r, o)) (zA base)) ([.ref th, .ref t1, .int p2] : List Value).toArray s 0 0 (zA base)) (F0 m 2 ls []) := by
    intro n2
    induction n2 with
    | zero => intro H locs ls v3 hC hl hf; rw [f_X0_isTakenByOther_2] at hf; cases hf
    | succ n2 ih2 =>
      intro H locs ls v3 hC hl hf
      rw [f_X0_isTakenByOther_2] at hf
      refine lv_iload_n hx hb dX0_isTakenByOther_2 rfl (lv_at hl 3 rfl) ?_
      refine lv_aload_n hx hb dX0_isTakenByOther_3 rfl (lv_at hl 1 rfl) ?_
      refine zg_4_2 hx hb hts hi4 hown hK hC hk_t1 w0 dX0_isTakenByOther_4 ?_
      refine lv_icmp_ge (tgt := 38) hx hb dX0_isTakenByOther_7 (by decide) (fun h7 => ?_) (fun h7 => ?_)
      · have hf := zif_t hf h7
        refine lv_iconst (v := 0) hx hb dX0_isTakenByOther_38 (by decide) ?_
        exact z_zret hx hb hr hlocks hC (Or.inl rfl) hf dX0_isTakenByOther_39
      · have hf := zif_f hf h7
        refine lv_aload_n hx hb dX0_isTakenByOther_10 rfl (lv_at hl 0 rfl) ?_
        refine lv_iload_n hx hb dX0_isTakenByOther_11 rfl (lv_at hl 2 rfl) ?_
        refine lv_iload_n hx hb dX0_isTakenByOther_12 rfl (lv_at hl 3 rfl) ?_
        refine lv_iadd hx hb dX0_isTakenByOther_13 ?_
        obtain ⟨o2, hc1, hf⟩ := zb_inv hf
        refine z_cq (z_rV (As := [.int (p2 + v3)]) (rest := []) ⟨hx, hb, hml, hown, hts⟩ (c_X0_holderAt (l := l) (D := D) (cy := cy) (base := base) (st := st) (K := K) (L := L) (c := c) (r := r) (o := o) (z := z) th (p2 + v3) hk_th hc1) (cwV 1 hts gX0_isTakenByOther_X0_holderAt rfl rfl rfl (by decide +kernel) ⟨Nat.le_of_ble_eq_true rfl, Nat.le_of_ble_eq_true rfl⟩) hG hC (zC.recv (ci := 0) (fs := _) hK hC (by rw [hk_th]; decide) (by rw [hk_th]; exact zc_0 cy _ _) rfl) rfl hl.1 rfl (lv_room (Nat.le_of_ble_eq_true rfl)) dX0_isTakenByOther_14 ⟨Nat.le_of_ble_eq_true rfl, Nat.le_of_ble_eq_true rfl⟩) hC (fun H locs hC => ?_)
        refine z_astore (lv' := [(4, va_rf o2), (0, .ref th), (1, .ref t1), (2, .int p2), (3, .int v3)]) hx hb dX0_isTakenByOther_17 hl (by decide) rfl (fun ls hl => ?_)
        refine z_aload hx hb dX0_isTakenByOther_19 (lv_at hl 0 rfl) ?_
        rcases zo_inv hf with ⟨e0, hf0⟩ | ⟨a3, e0, hk_a3, hf0⟩
        · subst e0; have hf := hf0
          have hl : lv_has ls 5 [(4, .null), (0, .ref th), (1, .ref t1), (2, .int p2), (3, .int v3)] := hl
          refine lv_ifnullN (tgt := 32) hx hb dX0_isTakenByOther_21 (by decide) ?_
          obtain ⟨x4, ex4, hf⟩ := zlet_inv hf
          refine lv_iinc (v := x4) (lv' := [(3, .int x4), (4, .null), (0, .ref th), (1, .ref t1), (2, .int p2)]) hx hb dX0_isTakenByOther_32 hl (k := 4) rfl (by rw [ex4]; rfl) (by decide) rfl (fun ls hl => ?_)
          refine lv_goto (tgt := 2) hx hb dX0_isTakenByOther_35 (by decide) ?_
          exact ih2 _ _ _ x4 hC (lv_sub hl [2, 3, 4, 0] rfl) hf
        · subst e0; have hf := hf0
          have hl : lv_has ls 5 [(4, .ref a3), (0, .ref th), (1, .ref t1), (2, .int p2), (3, .int v3)] := hl
          refine lv_ifnull hx hb dX0_isTakenByOther_21 ?_
          refine lv_aload hx hb dX0_isTakenByOther_24 (lv_at hl 0 rfl) ?_
          refine lv_aload_n hx hb dX0_isTakenByOther_26 rfl (lv_at hl 2 rfl) ?_
          refine z_acmp_eq (tgt := 32) hx hb dX0_isTakenByOther_27 (by decide) (fun h6 => ?_) (fun h6 => ?_)
          · have hf := zif_t hf h6
            obtain ⟨x5, ex5, hf⟩ := zlet_inv hf
            refine lv_iinc (v := x5) (lv' := [(3, .int x5), (4, .ref a3), (0, .ref th), (1, .ref t1), (2, .int p2)]) hx hb dX0_isTakenByOther_32 hl (k := 4) rfl (by rw [ex5]; rfl) (by decide) rfl (fun ls hl => ?_)
            refine lv_goto (tgt := 2) hx hb dX0_isTakenByOther_35 (by decide) ?_
            exact ih2 _ _ _ x5 hC (lv_sub hl [2, 3, 4, 0] rfl) hf
          · have hf := zif_f hf h6
            refine lv_iconst (v := 1) hx hb dX0_isTakenByOther_30 (by decide) ?_
            exact z_zret hx hb hr hlocks hC (Or.inr rfl) hf dX0_isTakenByOther_31
  unfold f_X0_isTakenByOther at hf
  refine lv_iconst (v := 0) hx hb dX0_isTakenByOther_0 (by decide) ?_
  refine lv_istore_n (lv' := [(3, .int 0), (0, .ref th), (1, .ref t1), (2, .int p2)]) hx hb dX0_isTakenByOther_1 rfl hl (by decide) rfl (fun ls hl => ?_)
  exact L2 z _ _ _ 0 hC (lv_sub hl [1, 2, 3, 0] rfl) hf
def f_X6_oneIf (K : Nat → Nat) (z : Nat) (c : zS) (p1 : Int32) : Option Int32 :=
  (if p1 = 0 then some 0 else some 1)
set_option maxRecDepth 100000 in
set_option maxHeartbeats 4000000 in
theorem c_X6_oneIf {l : Launch} {D : va_G} {cy : Nat → ClassId} {base : Nat} {st : Nat → Nat} {K : Nat → Nat} {L : List Nat} {c r : zS} {o : Int64} {z : Nat} (p1 : Int32) {rv : Int32}  (hf : f_X6_oneIf K z c p1 = some rv) : Met l yX6_oneIf wsX6_oneIf ({ frames := 0, cells := 0, slots := 0, locals := 0 }) (va_Pc [.int p1] (zGW zts0 zns0 D cy base st K L (c, r, o))) (va_Qi (fun (rr : Int32) (_ : Unit) => rr = rv) (fun _ => zB D cy base K L (c, r, o)) (zA base)) 0 0 (zA base) := by
  refine Met.ofW (cc := cX6_oneIf) (maxL := 1) (ret := (some .int)) (by decide) rfl ?_
  intro p e s m args below meth cd s₁ B hml hv
  obtain ⟨rfl, hG⟩ := hv
  have hx := B.exec
  have hb := B.bytes
  have hr := B.returns
  have hts := atoms_spec (ws := wsX6_oneIf) B.pre
  have hown : s.vm.findClass RX6 = some m.cls := findClass_of_methodNamed B.named
  have hlocks := B.notSynchronized
  have hC := hG.enter
  have hK := hG.2.2.2.1
  have hl := lv_entry ([.int p1]) (n := 1) (Nat.le_of_ble_eq_true rfl)
  rw [lg_entry_eq]
  generalize (lg_sl ([.int p1]) ++ List.replicate (1 - (lg_sl ([.int p1])).length) Slot.unset).toArray = ls at hl ⊢
  have hl : lv_has ls 1 [(0, .int p1)] := hl
  unfold f_X6_oneIf at hf
  refine lv_iload_n hx hb dX6_oneIf_0 rfl (lv_at hl 0 rfl) ?_
  refine lv_if_eq (tgt := 8) hx hb dX6_oneIf_1 (by decide) (fun h1 => ?_) (fun h1 => ?_)
  · have hf := zif_t hf h1
    refine lv_iconst (v := 0) hx hb dX6_oneIf_8 (by decide) ?_
    exact z_iret hx hb hr hlocks hC hf dX6_oneIf_9
  · have hf := zif_f hf h1
    refine lv_iconst (v := 1) hx hb dX6_oneIf_4 (by decide) ?_
    refine lv_goto (tgt := 9) hx hb dX6_oneIf_5 (by decide) ?_
    exact z_iret hx hb hr hlocks hC hf dX6_oneIf_9
def f_X6_isTradeAtLimit (K : Nat → Nat) (z : Nat) (c : zS) (t1 : Nat) : Option Int32 :=
  zn K (zr c 81 t1 0) 3 fun a1 => zn K (zr c 85 t1 0) 2 fun a2 => zn K (zr c 40 a2 0) 1 fun a3 => zb (f_X6_oneIf K z c (zi c 20 a3 0)) fun x5 => (if ((zi c 65 a1 0) - x5) < (zi c 62 a1 0) then some 0 else some 1)
set_option maxRecDepth 100000 in
set_option maxHeartbeats 4000000 in
theorem c_X6_isTradeAtLimit {l : Launch} {D : va_G} {cy : Nat → ClassId} {base : Nat} {st : Nat → Nat} {K : Nat → Nat} {L : List Nat} {c r : zS} {o : Int64} {z : Nat} (t1 : Nat) {rv : Int32}  (hk_t1 : K t1 = 4) (hf : f_X6_isTradeAtLimit K z c t1 = some rv) : Met l yX6_isTradeAtLimit wsX6_isTradeAtLimit ({ frames := 1, cells := 0, slots := 0, locals := 20 }) (va_Pc [.ref t1] (zGW zts0 zns0 D cy base st K L (c, r, o))) (va_Qi (fun (rr : Int32) (_ : Unit) => rr = rv) (fun _ => zB D cy base K L (c, r, o)) (zA base)) 0 0 (zA base) := by
  refine Met.ofW (cc := cX6_isTradeAtLimit) (maxL := 1) (ret := (some .boolean)) (by decide) rfl ?_
  intro p e s m args below meth cd s₁ B hml hv
  obtain ⟨rfl, hG⟩ := hv
  have hx := B.exec
  have hb := B.bytes
  have hr := B.returns
  have hts := atoms_spec (ws := wsX6_isTradeAtLimit) B.pre
  have hown : s.vm.findClass RX6 = some m.cls := findClass_of_methodNamed B.named
  have hlocks := B.notSynchronized
  have hC := hG.enter
  have hK := hG.2.2.2.1
  have hi1 : ∀ w ∈ wsX10, w ∈ wsX6_isTradeAtLimit := by decide +kernel
  have hi2 : ∀ w ∈ wsX20, w ∈ wsX6_isTradeAtLimit := by decide +kernel
  have hi3 : ∀ w ∈ wsX30, w ∈ wsX6_isTradeAtLimit := by decide +kernel
  have hi4 : ∀ w ∈ wsX40, w ∈ wsX6_isTradeAtLimit := by decide +kernel
  have w0 := hts (.fieldLink RX6 255 "MarketSquare$Trader" "trade" "LMarketSquare$Trade;") (by decide +kernel)
  have w1 := hts (.fieldLink RX6 371 "MarketSquare$Trade" "stalls" "I") (by decide +kernel)
  have w2 := hts (.fieldLink RX6 168 "MarketSquare$Trader" "today" "LMarketSquare$Today;") (by decide +kernel)
  have w3 := hts (.fieldLink RX6 224 "MarketSquare$Today" "stall" "LMarketSquare$Spot;") (by decide +kernel)
  have w4 := hts (.fieldLink RX6 227 "MarketSquare$Spot" "isSet" "Z") (by decide +kernel)
  have w5 := hts (.fieldLink RX6 372 "MarketSquare$Trade" "limit" "I") (by decide +kernel)
  have hl := lv_entry ([.ref t1]) (n := 1) (Nat.le_of_ble_eq_true rfl)
  rw [lg_entry_eq]
  generalize (lg_sl ([.ref t1]) ++ List.replicate (1 - (lg_sl ([.ref t1])).length) Slot.unset).toArray = ls at hl ⊢
  have hl : lv_has ls 1 [(0, .ref t1)] := hl
  unfold f_X6_isTradeAtLimit at hf
  refine lv_aload_n hx hb dX6_isTradeAtLimit_0 rfl (lv_at hl 0 rfl) ?_
  refine zg_4_1 hx hb hts hi4 hown hK hC hk_t1 w0 dX6_isTradeAtLimit_1 ?_
  obtain ⟨a1, ea1, hk_a1, hf⟩ := zn_inv hf
  refine z_ref ea1 ?_
  refine zg_3_5 hx hb hts hi3 hown hK hC hk_a1 w1 dX6_isTradeAtLimit_4 ?_
  refine lv_aload_n hx hb dX6_isTradeAtLimit_7 rfl (lv_at hl 0 rfl) ?_
  refine zg_4_5 hx hb hts hi4 hown hK hC hk_t1 w2 dX6_isTradeAtLimit_8 ?_
  obtain ⟨a2, ea2, hk_a2, hf⟩ := zn_inv hf
  refine z_ref ea2 ?_
  refine zg_2_0 hx hb hts hi2 hown hK hC hk_a2 w3 dX6_isTradeAtLimit_11 ?_
  obtain ⟨a3, ea3, hk_a3, hf⟩ := zn_inv hf
  refine z_ref ea3 ?_
  refine zg_1_0 hx hb hts hi1 hown hK hC hk_a3 w4 dX6_isTradeAtLimit_14 ?_
  obtain ⟨x5, hc4, hf⟩ := zb_inv hf
  refine z_ci (z_rS (b := 0) (As := [.int (zi c 20 a3 0)]) (rest := [.int (zi c 65 a1 0)]) ⟨hx, hb, hml, hown, hts⟩ (c_X6_oneIf (l := l) (D := D) (cy := cy) (base := base) (st := st) (K := K) (L := L) (c := c) (r := r) (o := o) (z := z) (zi c 20 a3 0)  hc4) (va_cwS 1 hts gX6_isTradeAtLimit_X6_oneIf rfl rfl rfl (by decide +kernel) ⟨Nat.le_of_ble_eq_true rfl, Nat.le_of_ble_eq_true rfl⟩) hG hC rfl hl.1 rfl (lv_room (Nat.le_of_ble_eq_true rfl)) dX6_isTradeAtLimit_17 ⟨Nat.le_of_ble_eq_true rfl, Nat.le_of_ble_eq_true rfl⟩) hC (fun H locs hC => ?_)
  refine lv_isub hx hb dX6_isTradeAtLimit_20 ?_
  refine lv_aload_n hx hb dX6_isTradeAtLimit_21 rfl (lv_at hl 0 rfl) ?_
  refine zg_4_1 hx hb hts hi4 hown hK hC hk_t1 w0 dX6_isTradeAtLimit_22 ?_
  refine z_ref ea1 ?_
  refine zg_3_2 hx hb hts hi3 hown hK hC hk_a1 w5 dX6_isTradeAtLimit_25 ?_
  refine lv_icmp_lt (tgt := 35) hx hb dX6_isTradeAtLimit_28 (by decide) (fun h6 => ?_) (fun h6 => ?_)
  · have hf := zif_t hf h6
    refine lv_iconst (v := 0) hx hb dX6_isTradeAtLimit_35 (by decide) ?_
    exact z_zret hx hb hr hlocks hC (Or.inl rfl) hf dX6_isTradeAtLimit_36
  · have hf := zif_f hf h6
    refine lv_iconst (v := 1) hx hb dX6_isTradeAtLimit_31 (by decide) ?_
    refine lv_goto (tgt := 36) hx hb dX6_isTradeAtLimit_32 (by decide) ?_
    exact z_zret hx hb hr hlocks hC (Or.inr rfl) hf dX6_isTradeAtLimit_36
def f_X3_isPairedWith (K : Nat → Nat) (z : Nat) (c : zS) (th : Nat) (t1 : Nat) : Option Int32 :=
  (if (((zi c 64 th 0) >>> ((zi c 60 t1 0) &&& 31)) &&& 1) = 1 then some 1 else some 0)
set_option maxRecDepth 100000 in
set_option maxHeartbeats 4000000 in
theorem c_X3_isPairedWith {l : Launch} {D : va_G} {cy : Nat → ClassId} {base : Nat} {st : Nat → Nat} {K : Nat → Nat} {L : List Nat} {c r : zS} {o : Int64} {z : Nat} (th : Nat) (t1 : Nat) {rv : Int32}  (hk_th : K th = 3) (hk_t1 : K t1 = 3) (hf : f_X3_isPairedWith K z c th t1 = some rv) : Met l yX3_isPairedWith wsX3_isPairedWith ({ frames := 0, cells := 0, slots := 0, locals := 0 }) (va_Pc [.ref th, .ref t1] (zGW zts0 zns0 D cy base st K L (c, r, o))) (va_Qi (fun (rr : Int32) (_ : Unit) => rr = rv) (fun _ => zB D cy base K L (c, r, o)) (zA base)) 0 0 (zA base) := by
  refine Met.ofW (cc := cX3_isPairedWith) (maxL := 2) (ret := (some .boolean)) (by decide) rfl ?_
  intro p e s m args below meth cd s₁ B hml hv
  obtain ⟨rfl, hG⟩ := hv
  have hx := B.exec
  have hb := B.bytes
  have hr := B.returns
  have hts := atoms_spec (ws := wsX3_isPairedWith) B.pre
  have hown : s.vm.findClass RX3 = some m.cls := findClass_of_methodNamed B.named
  have hlocks := B.notSynchronized
  have hC := hG.enter
  have hK := hG.2.2.2.1
  have hi3 : ∀ w ∈ wsX30, w ∈ wsX3_isPairedWith := by decide +kernel
  have w0 := hts (.fieldLink RX3 23 "MarketSquare$Trade" "pairs" "I") (by decide +kernel)
  have w1 := hts (.fieldLink RX3 7 "MarketSquare$Trade" "number" "I") (by decide +kernel)
  have hl := lv_entry ([.ref th, .ref t1]) (n := 2) (Nat.le_of_ble_eq_true rfl)
  rw [lg_entry_eq]
  generalize (lg_sl ([.ref th, .ref t1]) ++ List.replicate (2 - (lg_sl ([.ref th, .ref t1])).length) Slot.unset).toArray = ls at hl ⊢
  have hl : lv_has ls 2 [(0, .ref th), (1, .ref t1)] := hl
  unfold f_X3_isPairedWith at hf
  refine lv_aload_n hx hb dX3_isPairedWith_0 rfl (lv_at hl 0 rfl) ?_
  refine zg_3_4 hx hb hts hi3 hown hK hC hk_th w0 dX3_isPairedWith_1 ?_
  refine lv_aload_n hx hb dX3_isPairedWith_4 rfl (lv_at hl 1 rfl) ?_
  refine zg_3_0 hx hb hts hi3 hown hK hC hk_t1 w1 dX3_isPairedWith_5 ?_
  refine lv_ishr hx hb dX3_isPairedWith_8 ?_
  refine lv_iconst (v := 1) hx hb dX3_isPairedWith_9 (by decide) ?_
  refine lv_iand hx hb dX3_isPairedWith_10 ?_
  refine lv_iconst (v := 1) hx hb dX3_isPairedWith_11 (by decide) ?_
  refine lv_icmp_ne (tgt := 19) hx hb dX3_isPairedWith_12 (by decide) (fun h1 => ?_) (fun h1 => ?_)
  · have hf := zif_f hf h1
    refine lv_iconst (v := 0) hx hb dX3_isPairedWith_19 (by decide) ?_
    exact z_zret hx hb hr hlocks hC (Or.inl rfl) hf dX3_isPairedWith_20
  · have hf := zif_t hf h1
    refine lv_iconst (v := 1) hx hb dX3_isPairedWith_15 (by decide) ?_
    refine lv_goto (tgt := 20) hx hb dX3_isPairedWith_16 (by decide) ?_
    exact z_zret hx hb hr hlocks hC (Or.inr rfl) hf dX3_isPairedWith_20
def f_X6_isPairedStall (K : Nat → Nat) (z : Nat) (c : zS) (t1 : Nat) (p2 : Option Nat) : Option Int32 :=
  zo K p2 4 (some 0) fun a1 => (if a1 = t1 then some 0 else zn K (zr c 81 t1 0) 3 fun a2 => zn K (zr c 81 a1 0) 3 fun a3 => zb (f_X3_isPairedWith K z c a2 a3) fun x5 => (if x5 = 0 then some 0 else some 1))
set_option maxRecDepth 100000 in
set_option maxHeartbeats 4000000 in
theorem c_X6_isPairedStall {l : Launch} {D : va_G} {cy : Nat → ClassId} {base : Nat} {st : Nat → Nat} {K : Nat → Nat} {L : List Nat} {c r : zS} {o : Int64} {z : Nat} (t1 : Nat) (p2 : Option Nat) {rv : Int32}  (hk_t1 : K t1 = 4) (hf : f_X6_isPairedStall K z c t1 p2 = some rv) : Met l yX6_isPairedStall wsX6_isPairedStall ({ frames := 1, cells := 0, slots := 0, locals := 21 }) (va_Pc [.ref t1, va_rf p2] (zGW zts0 zns0 D cy base st K L (c, r, o))) (va_Qi (fun (rr : Int32) (_ : Unit) => rr = rv) (fun _ => zB D cy base K L (c, r, o)) (zA base)) 0 0 (zA base) := by
  refine Met.ofW (cc := cX6_isPairedStall) (maxL := 2) (ret := (some .boolean)) (by decide) rfl ?_
  intro p e s m args below meth cd s₁ B hml hv
  obtain ⟨rfl, hG⟩ := hv
  have hx := B.exec
  have hb := B.bytes
  have hr := B.returns
  have hts := atoms_spec (ws := wsX6_isPairedStall) B.pre
  have hown : s.vm.findClass RX6 = some m.cls := findClass_of_methodNamed B.named
  have hlocks := B.notSynchronized
  have hC := hG.enter
  have hK := hG.2.2.2.1
  have hi4 : ∀ w ∈ wsX40, w ∈ wsX6_isPairedStall := by decide +kernel
  have w0 := hts (.fieldLink RX6 255 "MarketSquare$Trader" "trade" "LMarketSquare$Trade;") (by decide +kernel)
  have hl := lv_entry ([.ref t1, va_rf p2]) (n := 2) (by cases p2 <;> exact Nat.le_of_ble_eq_true rfl)
  rw [lg_entry_eq]
  generalize (lg_sl ([.ref t1, va_rf p2]) ++ List.replicate (2 - (lg_sl ([.ref t1, va_rf p2])).length) Slot.unset).toArray = ls at hl ⊢
  have hl : lv_has ls 2 [(0, .ref t1), (1, va_rf p2)] := (by cases p2 <;> exact hl)
  unfold f_X6_isPairedStall at hf
  refine z_aload_n hx hb dX6_isPairedStall_0 rfl (lv_at hl 1 rfl) ?_
  rcases zo_inv hf with ⟨e0, hf0⟩ | ⟨a1, e0, hk_a1, hf0⟩
  · subst e0; have hf := hf0
    have hl : lv_has ls 2 [(0, .ref t1), (1, .null)] := hl
    refine lv_ifnullN (tgt := 27) hx hb dX6_isPairedStall_1 (by decide) ?_
    refine lv_iconst (v := 0) hx hb dX6_isPairedStall_27 (by decide) ?_
    exact z_zret hx hb hr hlocks hC (Or.inl rfl) hf dX6_isPairedStall_28
  · subst e0; have hf := hf0
    have hl : lv_has ls 2 [(0, .ref t1), (1, .ref a1)] := hl
    refine lv_ifnull hx hb dX6_isPairedStall_1 ?_
    refine lv_aload_n hx hb dX6_isPairedStall_4 rfl (lv_at hl 1 rfl) ?_
    refine lv_aload_n hx hb dX6_isPairedStall_5 rfl (lv_at hl 0 rfl) ?_
    refine z_acmp_eq (tgt := 27) hx hb dX6_isPairedStall_6 (by decide) (fun h7 => ?_) (fun h7 => ?_)
    · have hf := zif_t hf h7
      refine lv_iconst (v := 0) hx hb dX6_isPairedStall_27 (by decide) ?_
      exact z_zret hx hb hr hlocks hC (Or.inl rfl) hf dX6_isPairedStall_28
    · have hf := zif_f hf h7
      refine lv_aload_n hx hb dX6_isPairedStall_9 rfl (lv_at hl 0 rfl) ?_
      refine zg_4_1 hx hb hts hi4 hown hK hC hk_t1 w0 dX6_isPairedStall_10 ?_
      obtain ⟨a2, ea2, hk_a2, hf⟩ := zn_inv hf
      refine z_ref ea2 ?_
      refine lv_aload_n hx hb dX6_isPairedStall_13 rfl (lv_at hl 1 rfl) ?_
      refine zg_4_1 hx hb hts hi4 hown hK hC hk_a1 w0 dX6_isPairedStall_14 ?_
      obtain ⟨a3, ea3, hk_a3, hf⟩ := zn_inv hf
      refine z_ref ea3 ?_
      obtain ⟨x5, hc4, hf⟩ := zb_inv hf
      refine z_ci (z_rV (As := [.ref a3]) (rest := []) ⟨hx, hb, hml, hown, hts⟩ (c_X3_isPairedWith (l := l) (D := D) (cy := cy) (base := base) (st := st) (K := K) (L := L) (c := c) (r := r) (o := o) (z := z) a2 a3 hk_a2 hk_a3 hc4) (cwV 1 hts gX6_isPairedStall_X3_isPairedWith rfl rfl rfl (by decide +kernel) ⟨Nat.le_of_ble_eq_true rfl, Nat.le_of_ble_eq_true rfl⟩) hG hC (zC.recv (ci := 3) (fs := _) hK hC (by rw [hk_a2]; decide) (by rw [hk_a2]; exact zc_3 cy _ _) rfl) rfl hl.1 rfl (lv_room (Nat.le_of_ble_eq_true rfl)) dX6_isPairedStall_17 ⟨Nat.le_of_ble_eq_true rfl, Nat.le_of_ble_eq_true rfl⟩) hC (fun H locs hC => ?_)
      refine lv_if_eq (tgt := 27) hx hb dX6_isPairedStall_20 (by decide) (fun h6 => ?_) (fun h6 => ?_)
      · have hf := zif_t hf h6
        refine lv_iconst (v := 0) hx hb dX6_isPairedStall_27 (by decide) ?_
        exact z_zret hx hb hr hlocks hC (Or.inl rfl) hf dX6_isPairedStall_28
      · have hf := zif_f hf h6
        refine lv_iconst (v := 1) hx hb dX6_isPairedStall_23 (by decide) ?_
        refine lv_goto (tgt := 28) hx hb dX6_isPairedStall_24 (by decide) ?_
        exact z_zret hx hb hr hlocks hC (Or.inr rfl) hf dX6_isPairedStall_28
def f_X6_isPairedBeside (K : Nat → Nat) (z : Nat) (c : zS) (t1 : Nat) (t2 : Nat) (p3 : Int32) : Option Int32 :=
  zb (f_X0_holderAt K z c t1 (p3 - 1)) fun o2 => zb (f_X6_isPairedStall K z c t2 o2) fun x4 => (if x4 = 0 then zb (f_X0_holderAt K z c t1 (p3 + (zi c 82 t2 0))) fun o6 => zb (f_X6_isPairedStall K z c t2 o6) fun x8 => (if x8 = 0 then some 0 else some 1) else some 1)
set_option maxRecDepth 100000 in
set_option maxHeartbeats 4000000 in
theorem c_X6_isPairedBeside {l : Launch} {D : va_G} {cy : Nat → ClassId} {base : Nat} {st : Nat → Nat} {K : Nat → Nat} {L : List Nat} {c r : zS} {o : Int64} {z : Nat} (t1 : Nat) (t2 : Nat) (p3 : Int32) {rv : Int32}  (hk_t1 : K t1 = 0) (hk_t2 : K t2 = 4) (hf : f_X6_isPairedBeside K z c t1 t2 p3 = some rv) : Met l yX6_isPairedBeside wsX6_isPairedBeside ({ frames := 2, cells := 0, slots := 0, locals := 42 }) (va_Pc [.ref t1, .ref t2, .int p3] (zGW zts0 zns0 D cy base st K L (c, r, o))) (va_Qi (fun (rr : Int32) (_ : Unit) => rr = rv) (fun _ => zB D cy base K L (c, r, o)) (zA base)) 0 0 (zA base) := by
  refine Met.ofW (cc := cX6_isPairedBeside) (maxL := 3) (ret := (some .boolean)) (by decide) rfl ?_
  intro p e s m args below meth cd s₁ B hml hv
  obtain ⟨rfl, hG⟩ := hv
  have hx := B.exec
  have hb := B.bytes
  have hr := B.returns
  have hts := atoms_spec (ws := wsX6_isPairedBeside) B.pre
  have hown : s.vm.findClass RX6 = some m.cls := findClass_of_methodNamed B.named
  have hlocks := B.notSynchronized
  have hC := hG.enter
  have hK := hG.2.2.2.1
  have hi4 : ∀ w ∈ wsX40, w ∈ wsX6_isPairedBeside := by decide +kernel
  have w0 := hts (.fieldLink RX6 260 "MarketSquare$Trader" "front" "I") (by decide +kernel)
  have hl := lv_entry ([.ref t1, .ref t2, .int p3]) (n := 3) (Nat.le_of_ble_eq_true rfl)
  rw [lg_entry_eq]
  generalize (lg_sl ([.ref t1, .ref t2, .int p3]) ++ List.replicate (3 - (lg_sl ([.ref t1, .ref t2, .int p3])).length) Slot.unset).toArray = ls at hl ⊢
  have hl : lv_has ls 3 [(0, .ref t1), (1, .ref t2), (2, .int p3)] := hl
  unfold f_X6_isPairedBeside at hf
  refine lv_aload_n hx hb dX6_isPairedBeside_0 rfl (lv_at hl 1 rfl) ?_
  refine lv_aload_n hx hb dX6_isPairedBeside_1 rfl (lv_at hl 0 rfl) ?_
  refine lv_iload_n hx hb dX6_isPairedBeside_2 rfl (lv_at hl 2 rfl) ?_
  refine lv_iconst (v := 1) hx hb dX6_isPairedBeside_3 (by decide) ?_
  refine lv_isub hx hb dX6_isPairedBeside_4 ?_
  obtain ⟨o2, hc1, hf⟩ := zb_inv hf
  refine z_cq (z_rV (As := [.int (p3 - 1)]) (rest := [.ref t2]) ⟨hx, hb, hml, hown, hts⟩ (c_X0_holderAt (l := l) (D := D) (cy := cy) (base := base) (st := st) (K := K) (L := L) (c := c) (r := r) (o := o) (z := z) t1 (p3 - 1) hk_t1 hc1) (cwV 1 hts gX6_isPairedBeside_X0_holderAt rfl rfl rfl (by decide +kernel) ⟨Nat.le_of_ble_eq_true rfl, Nat.le_of_ble_eq_true rfl⟩) hG hC (zC.recv (ci := 0) (fs := _) hK hC (by rw [hk_t1]; decide) (by rw [hk_t1]; exact zc_0 cy _ _) rfl) rfl hl.1 rfl (lv_room (Nat.le_of_ble_eq_true rfl)) dX6_isPairedBeside_5 ⟨Nat.le_of_ble_eq_true rfl, Nat.le_of_ble_eq_true rfl⟩) hC (fun H locs hC => ?_)
  obtain ⟨x4, hc3, hf⟩ := zb_inv hf
  refine z_ci (z_rS (b := 0) (As := [.ref t2, va_rf o2]) (rest := []) ⟨hx, hb, hml, hown, hts⟩ (c_X6_isPairedStall (l := l) (D := D) (cy := cy) (base := base) (st := st) (K := K) (L := L) (c := c) (r := r) (o := o) (z := z) t2 o2 hk_t2 hc3) (va_cwS 2 hts gX6_isPairedBeside_X6_isPairedStall rfl rfl rfl (by decide +kernel) ⟨Nat.le_of_ble_eq_true rfl, Nat.le_of_ble_eq_true rfl⟩) hG hC rfl hl.1 rfl (lv_room (Nat.le_of_ble_eq_true rfl)) dX6_isPairedBeside_8 ⟨Nat.le_of_ble_eq_true rfl, Nat.le_of_ble_eq_true rfl⟩) hC (fun H locs hC => ?_)
  refine lv_if_ne (tgt := 31) hx hb dX6_isPairedBeside_11 (by decide) (fun h10 => ?_) (fun h10 => ?_)
  · have hf := zif_f hf h10
    refine lv_iconst (v := 1) hx hb dX6_isPairedBeside_31 (by decide) ?_
    refine lv_goto (tgt := 36) hx hb dX6_isPairedBeside_32 (by decide) ?_
    exact z_zret hx hb hr hlocks hC (Or.inr rfl) hf dX6_isPairedBeside_36
  · have hf := zif_t hf h10
    refine lv_aload_n hx hb dX6_isPairedBeside_14 rfl (lv_at hl 1 rfl) ?_
    refine lv_aload_n hx hb dX6_isPairedBeside_15 rfl (lv_at hl 0 rfl) ?_
    refine lv_iload_n hx hb dX6_isPairedBeside_16 rfl (lv_at hl 2 rfl) ?_
    refine lv_aload_n hx hb dX6_isPairedBeside_17 rfl (lv_at hl 1 rfl) ?_
    refine zg_4_2 hx hb hts hi4 hown hK hC hk_t2 w0 dX6_isPairedBeside_18 ?_
    refine lv_iadd hx hb dX6_isPairedBeside_21 ?_
    obtain ⟨o6, hc5, hf⟩ := zb_inv hf
    refine z_cq (z_rV (As := [.int (p3 + (zi c 82 t2 0))]) (rest := [.ref t2]) ⟨hx, hb, hml, hown, hts⟩ (c_X0_holderAt (l := l) (D := D) (cy := cy) (base := base) (st := st) (K := K) (L := L) (c := c) (r := r) (o := o) (z := z) t1 (p3 + (zi c 82 t2 0)) hk_t1 hc5) (cwV 1 hts gX6_isPairedBeside_X0_holderAt rfl rfl rfl (by decide +kernel) ⟨Nat.le_of_ble_eq_true rfl, Nat.le_of_ble_eq_true rfl⟩) hG hC (zC.recv (ci := 0) (fs := _) hK hC (by rw [hk_t1]; decide) (by rw [hk_t1]; exact zc_0 cy _ _) rfl) rfl hl.1 rfl (lv_room (Nat.le_of_ble_eq_true rfl)) dX6_isPairedBeside_22 ⟨Nat.le_of_ble_eq_true rfl, Nat.le_of_ble_eq_true rfl⟩) hC (fun H locs hC => ?_)
    obtain ⟨x8, hc7, hf⟩ := zb_inv hf
    refine z_ci (z_rS (b := 0) (As := [.ref t2, va_rf o6]) (rest := []) ⟨hx, hb, hml, hown, hts⟩ (c_X6_isPairedStall (l := l) (D := D) (cy := cy) (base := base) (st := st) (K := K) (L := L) (c := c) (r := r) (o := o) (z := z) t2 o6 hk_t2 hc7) (va_cwS 2 hts gX6_isPairedBeside_X6_isPairedStall rfl rfl rfl (by decide +kernel) ⟨Nat.le_of_ble_eq_true rfl, Nat.le_of_ble_eq_true rfl⟩) hG hC rfl hl.1 rfl (lv_room (Nat.le_of_ble_eq_true rfl)) dX6_isPairedBeside_25 ⟨Nat.le_of_ble_eq_true rfl, Nat.le_of_ble_eq_true rfl⟩) hC (fun H locs hC => ?_)
    refine lv_if_eq (tgt := 35) hx hb dX6_isPairedBeside_28 (by decide) (fun h9 => ?_) (fun h9 => ?_)
    · have hf := zif_t hf h9
      refine lv_iconst (v := 0) hx hb dX6_isPairedBeside_35 (by decide) ?_
      exact z_zret hx hb hr hlocks hC (Or.inl rfl) hf dX6_isPairedBeside_36
    · have hf := zif_f hf h9
      refine lv_iconst (v := 1) hx hb dX6_isPairedBeside_31 (by decide) ?_
      refine lv_goto (tgt := 36) hx hb dX6_isPairedBeside_32 (by decide) ?_
      exact z_zret hx hb hr hlocks hC (Or.inr rfl) hf dX6_isPairedBeside_36
def f_X6_isPairedAcross_8 (K : Nat → Nat) (z : Nat) (c : zS) (t2 : Nat) (p3 : Int32) : Nat → Nat → Int32 → Option Int32
  | 0, _, _ => none
  | n + 1, v0, v3 =>
    (if (zi c 82 t2 0) ≤ v3 then some 0 else zb (f_X0_holderAt K z c v0 (p3 + v3)) fun o3 => zb (f_X6_isPairedStall K z c t2 o3) fun x5 => (if x5 = 0 then zlet (v3 + 1) fun x6 => f_X6_isPairedAcross_8 K z c t2 p3 n v0 x6 else some 1))
def f_X6_isPairedAcross (K : Nat → Nat) (z : Nat) (c : zS) (p1 : Option Nat) (t2 : Nat) (p3 : Int32) : Option Int32 :=
  zo K p1 0 (some 0) fun a1 => f_X6_isPairedAcross_8 K z c t2 p3 z a1 0
set_option maxRecDepth 100000 in
set_option maxHeartbeats 4000000 in
theorem c_X6_isPairedAcross {l : Launch} {D : va_G} {cy : Nat → ClassId} {base : Nat} {st : Nat → Nat} {K : Nat → Nat} {L : List Nat} {c r : zS} {o : Int64} {z : Nat} (p1 : Option Nat) (t2 : Nat) (p3 : Int32) {rv : Int32}  (hk_t2 : K t2 = 4) (hf : f_X6_isPairedAcross K z c p1 t2 p3 = some rv) : Met l yX6_isPairedAcross wsX6_isPairedAcross ({ frames := 2, cells := 0, slots := 0, locals := 42 }) (va_Pc [va_rf p1, .ref t2, .int p3] (zGW zts0 zns0 D cy base st K L (c, r, o))) (va_Qi (fun (rr : Int32) (_ : Unit) => rr = rv) (fun _ => zB D cy base K L (c, r, o)) (zA base)) 0 0 (zA base) := by
  refine Met.ofW (cc := cX6_isPairedAcross) (maxL := 4) (ret := (some .boolean)) (by decide) rfl ?_
  intro p e s m args below meth cd s₁ B hml hv
  obtain ⟨rfl, hG⟩ := hv
  have hx := B.exec
  have hb := B.bytes
  have hr := B.returns
  have hts := atoms_spec (ws := wsX6_isPairedAcross) B.pre
  have hown : s.vm.findClass RX6 = some m.cls := findClass_of_methodNamed B.named
  have hlocks := B.notSynchronized
  have hC := hG.enter
  have hK := hG.2.2.2.1
  have hi4 : ∀ w ∈ wsX40, w ∈ wsX6_isPairedAcross := by decide +kernel
  have w0 := hts (.fieldLink RX6 260 "MarketSquare$Trader" "front" "I") (by decide +kernel)
  have hl := lv_entry ([va_rf p1, .ref t2, .int p3]) (n := 4) (by cases p1 <;> exact Nat.le_of_ble_eq_true rfl)
  rw [lg_entry_eq]
  generalize (lg_sl ([va_rf p1, .ref t2, .int p3]) ++ List.replicate (4 - (lg_sl ([va_rf p1, .ref t2, .int p3])).length) Slot.unset).toArray = ls at hl ⊢
  have hl : lv_has ls 4 [(0, va_rf p1), (1, .ref t2), (2, .int p3)] := (by cases p1 <;> exact hl)
  have L8 : ∀ (n8 : Nat) (H : Heap) (locs : List Loc) (ls : Array Slot) (v0 : Nat) (v3 : Int32), K v0 = 0 → zC D cy base K L (c, r, o) s.heap H locs → lv_has ls 4 [(0, .ref v0), (1, .ref t2), (2, .int p3), (3, .int v3)] → f_X6_isPairedAcross_8 K z c t2 p3 n8 v0 v3 = some rv → W p l e (headSpec wsX6_isPairedAcross ({ frames := 2, cells := 0, slots := 0, locals := 42 })).room s m ([va_rf p1, .ref t2, .int p3] : List Value).toArray below meth cd H locs 0 0 (MQ below (va_Qi (fun (rr : Int32) (_ : Unit) => rr = rv) (fun _ => zB D cy base K L (c, r, o)) (zA base)) ([va_rf p1, .ref t2, .int p3] : List Value).toArray s 0 0 (zA base)) (F0 m 8 ls []) := by
    intro n8
    induction n8 with
    | zero => intro H locs ls v0 v3 hk_v0 hC hl hf; rw [f_X6_isPairedAcross_8] at hf; cases hf
    | succ n8 ih8 =>
      intro H locs ls v0 v3 hk_v0 hC hl hf
      rw [f_X6_isPairedAcross_8] at hf
      refine lv_iload_n hx hb dX6_isPairedAcross_8 rfl (lv_at hl 3 rfl) ?_
      refine lv_aload_n hx hb dX6_isPairedAcross_9 rfl (lv_at hl 1 rfl) ?_
      refine zg_4_2 hx hb hts hi4 hown hK hC hk_t2 w0 dX6_isPairedAcross_10 ?_
      refine lv_icmp_ge (tgt := 38) hx hb dX6_isPairedAcross_13 (by decide) (fun h8 => ?_) (fun h8 => ?_)
      · have hf := zif_t hf h8
        refine lv_iconst (v := 0) hx hb dX6_isPairedAcross_38 (by decide) ?_
        exact z_zret hx hb hr hlocks hC (Or.inl rfl) hf dX6_isPairedAcross_39
      · have hf := zif_f hf h8
        refine lv_aload_n hx hb dX6_isPairedAcross_16 rfl (lv_at hl 1 rfl) ?_
        refine lv_aload_n hx hb dX6_isPairedAcross_17 rfl (lv_at hl 0 rfl) ?_
        refine lv_iload_n hx hb dX6_isPairedAcross_18 rfl (lv_at hl 2 rfl) ?_
        refine lv_iload_n hx hb dX6_isPairedAcross_19 rfl (lv_at hl 3 rfl) ?_
        refine lv_iadd hx hb dX6_isPairedAcross_20 ?_
        obtain ⟨o3, hc2, hf⟩ := zb_inv hf
        refine z_cq (z_rV (As := [.int (p3 + v3)]) (rest := [.ref t2]) ⟨hx, hb, hml, hown, hts⟩ (c_X0_holderAt (l := l) (D := D) (cy := cy) (base := base) (st := st) (K := K) (L := L) (c := c) (r := r) (o := o) (z := z) v0 (p3 + v3) hk_v0 hc2) (cwV 1 hts gX6_isPairedAcross_X0_holderAt rfl rfl rfl (by decide +kernel) ⟨Nat.le_of_ble_eq_true rfl, Nat.le_of_ble_eq_true rfl⟩) hG hC (zC.recv (ci := 0) (fs := _) hK hC (by rw [hk_v0]; decide) (by rw [hk_v0]; exact zc_0 cy _ _) rfl) rfl hl.1 rfl (lv_room (Nat.le_of_ble_eq_true rfl)) dX6_isPairedAcross_21 ⟨Nat.le_of_ble_eq_true rfl, Nat.le_of_ble_eq_true rfl⟩) hC (fun H locs hC => ?_)
        obtain ⟨x5, hc4, hf⟩ := zb_inv hf
        refine z_ci (z_rS (b := 0) (As := [.ref t2, va_rf o3]) (rest := []) ⟨hx, hb, hml, hown, hts⟩ (c_X6_isPairedStall (l := l) (D := D) (cy := cy) (base := base) (st := st) (K := K) (L := L) (c := c) (r := r) (o := o) (z := z) t2 o3 hk_t2 hc4) (va_cwS 2 hts gX6_isPairedAcross_X6_isPairedStall rfl rfl rfl (by decide +kernel) ⟨Nat.le_of_ble_eq_true rfl, Nat.le_of_ble_eq_true rfl⟩) hG hC rfl hl.1 rfl (lv_room (Nat.le_of_ble_eq_true rfl)) dX6_isPairedAcross_24 ⟨Nat.le_of_ble_eq_true rfl, Nat.le_of_ble_eq_true rfl⟩) hC (fun H locs hC => ?_)
        refine lv_if_eq (tgt := 32) hx hb dX6_isPairedAcross_27 (by decide) (fun h7 => ?_) (fun h7 => ?_)
        · have hf := zif_t hf h7
          obtain ⟨x6, ex6, hf⟩ := zlet_inv hf
          refine lv_iinc (v := x6) (lv' := [(3, .int x6), (0, .ref v0), (1, .ref t2), (2, .int p3)]) hx hb dX6_isPairedAcross_32 hl (k := 3) rfl (by rw [ex6]; rfl) (by decide) rfl (fun ls hl => ?_)
          refine lv_goto (tgt := 8) hx hb dX6_isPairedAcross_35 (by decide) ?_
          exact ih8 _ _ _ v0 x6 hk_v0 hC (lv_sub hl [1, 2, 3, 0] rfl) hf
        · have hf := zif_f hf h7
          refine lv_iconst (v := 1) hx hb dX6_isPairedAcross_30 (by decide) ?_
          exact z_zret hx hb hr hlocks hC (Or.inr rfl) hf dX6_isPairedAcross_31
  unfold f_X6_isPairedAcross at hf
  refine z_aload_n hx hb dX6_isPairedAcross_0 rfl (lv_at hl 0 rfl) ?_
  rcases zo_inv hf with ⟨e0, hf0⟩ | ⟨a1, e0, hk_a1, hf0⟩
  · subst e0; have hf := hf0
    have hl : lv_has ls 4 [(0, .null), (1, .ref t2), (2, .int p3)] := hl
    refine lv_ifnonnullN hx hb dX6_isPairedAcross_1 ?_
    refine lv_iconst (v := 0) hx hb dX6_isPairedAcross_4 (by decide) ?_
    exact z_zret hx hb hr hlocks hC (Or.inl rfl) hf dX6_isPairedAcross_5
  · subst e0; have hf := hf0
    have hl : lv_has ls 4 [(0, .ref a1), (1, .ref t2), (2, .int p3)] := hl
    refine lv_ifnonnull (tgt := 6) hx hb dX6_isPairedAcross_1 (by decide) ?_
    refine lv_iconst (v := 0) hx hb dX6_isPairedAcross_6 (by decide) ?_
    refine lv_istore_n (lv' := [(3, .int 0), (0, .ref a1), (1, .ref t2), (2, .int p3)]) hx hb dX6_isPairedAcross_7 rfl hl (by decide) rfl (fun ls hl => ?_)
    exact L8 z _ _ _ a1 0 hk_a1 hC (lv_sub hl [1, 2, 3, 0] rfl) hf
def f_X6_doesSpoil (K : Nat → Nat) (z : Nat) (c : zS) (t1 : Nat) (t2 : Nat) : Option Int32 :=
  (if (zi c 86 t1 0) = 3 then zn K (zr c 81 t2 0) 3 fun a2 => zz (zi c 63 a2 0) <| some (zi c 63 a2 0) else (if (zi c 86 t2 0) = 3 then some 1 else some 0))
set_option maxRecDepth 100000 in
set_option maxHeartbeats 4000000 in
theorem c_X6_doesSpoil {l : Launch} {D : va_G} {cy : Nat → ClassId} {base : Nat} {st : Nat → Nat} {K : Nat → Nat} {L : List Nat} {c r : zS} {o : Int64} {z : Nat} (t1 : Nat) (t2 : Nat) {rv : Int32}  (hk_t1 : K t1 = 4) (hk_t2 : K t2 = 4) (hf : f_X6_doesSpoil K z c t1 t2 = some rv) : Met l yX6_doesSpoil wsX6_doesSpoil ({ frames := 0, cells := 0, slots := 0, locals := 0 }) (va_Pc [.ref t1, .ref t2] (zGW zts0 zns0 D cy base st K L (c, r, o))) (va_Qi (fun (rr : Int32) (_ : Unit) => rr = rv) (fun _ => zB D cy base K L (c, r, o)) (zA base)) 0 0 (zA base) := by
  refine Met.ofW (cc := cX6_doesSpoil) (maxL := 2) (ret := (some .boolean)) (by decide) rfl ?_
  intro p e s m args below meth cd s₁ B hml hv
  obtain ⟨rfl, hG⟩ := hv
  have hx := B.exec
  have hb := B.bytes
  have hr := B.returns
  have hts := atoms_spec (ws := wsX6_doesSpoil) B.pre
  have hown : s.vm.findClass RX6 = some m.cls := findClass_of_methodNamed B.named
  have hlocks := B.notSynchronized
  have hC := hG.enter
  have hK := hG.2.2.2.1
  have hi3 : ∀ w ∈ wsX30, w ∈ wsX6_doesSpoil := by decide +kernel
  have hi4 : ∀ w ∈ wsX40, w ∈ wsX6_doesSpoil := by decide +kernel
  have w0 := hts (.fieldLink RX6 115 "MarketSquare$Trader" "kind" "I") (by decide +kernel)
  have w1 := hts (.fieldLink RX6 255 "MarketSquare$Trader" "trade" "LMarketSquare$Trade;") (by decide +kernel)
  have w2 := hts (.fieldLink RX6 378 "MarketSquare$Trade" "cloth" "Z") (by decide +kernel)
  have hl := lv_entry ([.ref t1, .ref t2]) (n := 2) (Nat.le_of_ble_eq_true rfl)
  rw [lg_entry_eq]
  generalize (lg_sl ([.ref t1, .ref t2]) ++ List.replicate (2 - (lg_sl ([.ref t1, .ref t2])).length) Slot.unset).toArray = ls at hl ⊢
  have hl : lv_has ls 2 [(0, .ref t1), (1, .ref t2)] := hl
  unfold f_X6_doesSpoil at hf
  refine lv_aload_n hx hb dX6_doesSpoil_0 rfl (lv_at hl 0 rfl) ?_
  refine zg_4_6 hx hb hts hi4 hown hK hC hk_t1 w0 dX6_doesSpoil_1 ?_
  refine lv_iconst (v := 3) hx hb dX6_doesSpoil_4 (by decide) ?_
  refine lv_icmp_ne (tgt := 18) hx hb dX6_doesSpoil_5 (by decide) (fun h4 => ?_) (fun h4 => ?_)
  · have hf := zif_f hf h4
    refine lv_aload_n hx hb dX6_doesSpoil_18 rfl (lv_at hl 1 rfl) ?_
    refine zg_4_6 hx hb hts hi4 hown hK hC hk_t2 w0 dX6_doesSpoil_19 ?_
    refine lv_iconst (v := 3) hx hb dX6_doesSpoil_22 (by decide) ?_
    refine lv_icmp_ne (tgt := 30) hx hb dX6_doesSpoil_23 (by decide) (fun h1 => ?_) (fun h1 => ?_)
    · have hf := zif_f hf h1
      refine lv_iconst (v := 0) hx hb dX6_doesSpoil_30 (by decide) ?_
      exact z_zret hx hb hr hlocks hC (Or.inl rfl) hf dX6_doesSpoil_31
    · have hf := zif_t hf h1
      refine lv_iconst (v := 1) hx hb dX6_doesSpoil_26 (by decide) ?_
      refine lv_goto (tgt := 31) hx hb dX6_doesSpoil_27 (by decide) ?_
      exact z_zret hx hb hr hlocks hC (Or.inr rfl) hf dX6_doesSpoil_31
  · have hf := zif_t hf h4
    refine lv_aload_n hx hb dX6_doesSpoil_8 rfl (lv_at hl 1 rfl) ?_
    refine zg_4_1 hx hb hts hi4 hown hK hC hk_t2 w1 dX6_doesSpoil_9 ?_
    obtain ⟨a2, ea2, hk_a2, hf⟩ := zn_inv hf
    refine z_ref ea2 ?_
    refine zg_3_3 hx hb hts hi3 hown hK hC hk_a2 w2 dX6_doesSpoil_12 ?_
    refine lv_goto (tgt := 31) hx hb dX6_doesSpoil_15 (by decide) ?_
    obtain ⟨hz3, hf⟩ := zz_inv hf
    exact z_zret hx hb hr hlocks hC hz3 hf dX6_doesSpoil_31
def f_X6_isCookNearCloth_23 (K : Nat → Nat) (z : Nat) (c : zS) (t1 : Nat) (t2 : Nat) (p3 : Int32) : Nat → Int32 → Option Int32
  | 0, _ => none
  | n + 1, v3 =>
    (if ((zi c 82 t2 0) + 6) ≤ v3 then some 0 else zb (f_X0_holderAt K z c t1 (p3 + v3)) fun o2 => zo K o2 4 (zlet (v3 + 1) fun x4 => f_X6_isCookNearCloth_23 K z c t1 t2 p3 n x4) fun a3 => (if a3 = t2 then zlet (v3 + 1) fun x5 => f_X6_isCookNearCloth_23 K z c t1 t2 p3 n x5 else zb (f_X6_doesSpoil K z c t2 a3) fun x7 => (if x7 = 0 then zlet (v3 + 1) fun x8 => f_X6_isCookNearCloth_23 K z c t1 t2 p3 n x8 else some 1)))
def f_X6_isCookNearCloth (K : Nat → Nat) (z : Nat) (c : zS) (t1 : Nat) (t2 : Nat) (p3 : Int32) : Option Int32 :=
  (if (zi c 86 t2 0) = 3 then f_X6_isCookNearCloth_23 K z c t1 t2 p3 z (-6) else zn K (zr c 81 t2 0) 3 fun a12 => (if (zi c 63 a12 0) = 0 then some 0 else f_X6_isCookNearCloth_23 K z c t1 t2 p3 z (-6)))
set_option maxRecDepth 100000 in
set_option maxHeartbeats 4000000 in
theorem c_X6_isCookNearCloth {l : Launch} {D : va_G} {cy : Nat → ClassId} {base : Nat} {st : Nat → Nat} {K : Nat → Nat} {L : List Nat} {c r : zS} {o : Int64} {z : Nat} (t1 : Nat) (t2 : Nat) (p3 : Int32) {rv : Int32}  (hk_t1 : K t1 = 0) (hk_t2 : K t2 = 4) (hf : f_X6_isCookNearCloth K z c t1 t2 p3 = some rv) : Met l yX6_isCookNearCloth wsX6_isCookNearCloth ({ frames := 2, cells := 0, slots := 0, locals := 42 }) (va_Pc [.ref t1, .ref t2, .int p3] (zGW zts0 zns0 D cy base st K L (c, r, o))) (va_Qi (fun (rr : Int32) (_ : Unit) => rr = rv) (fun _ => zB D cy base K L (c, r, o)) (zA base)) 0 0 (zA base) := by
  refine Met.ofW (cc := cX6_isCookNearCloth) (maxL := 5) (ret := (some .boolean)) (by decide) rfl ?_
  intro p e s m args below meth cd s₁ B hml hv
  obtain ⟨rfl, hG⟩ := hv
  have hx := B.exec
  have hb := B.bytes
  have hr := B.returns
  have hts := atoms_spec (ws := wsX6_isCookNearCloth) B.pre
  have hown : s.vm.findClass RX6 = some m.cls := findClass_of_methodNamed B.named
  have hlocks := B.notSynchronized
  have hC := hG.enter
  have hK := hG.2.2.2.1
  have hi3 : ∀ w ∈ wsX30, w ∈ wsX6_isCookNearCloth := by decide +kernel
  have hi4 : ∀ w ∈ wsX40, w ∈ wsX6_isCookNearCloth := by decide +kernel
  have w0 := hts (.fieldLink RX6 115 "MarketSquare$Trader" "kind" "I") (by decide +kernel)
  have w1 := hts (.fieldLink RX6 260 "MarketSquare$Trader" "front" "I") (by decide +kernel)
  have w2 := hts (.fieldLink RX6 255 "MarketSquare$Trader" "trade" "LMarketSquare$Trade;") (by decide +kernel)
  have w3 := hts (.fieldLink RX6 378 "MarketSquare$Trade" "cloth" "Z") (by decide +kernel)
  have hl := lv_entry ([.ref t1, .ref t2, .int p3]) (n := 5) (Nat.le_of_ble_eq_true rfl)
  rw [lg_entry_eq]
  generalize (lg_sl ([.ref t1, .ref t2, .int p3]) ++ List.replicate (5 - (lg_sl ([.ref t1, .ref t2, .int p3])).length) Slot.unset).toArray = ls at hl ⊢
  have hl : lv_has ls 5 [(0, .ref t1), (1, .ref t2), (2, .int p3)] := hl
  have L23 : ∀ (n23 : Nat) (H : Heap) (locs : List Loc) (ls : Array Slot) (v3 : Int32), zC D cy base K L (c, r, o) s.heap H locs → lv_has ls 5 [(0, .ref t1), (1, .ref t2), (2, .int p3), (3, .int v3)] → f_X6_isCookNearCloth_23 K z c t1 t2 p3 n23 v3 = some rv → W p l e (headSpec wsX6_isCookNearCloth ({ frames := 2, cells := 0, slots := 0, locals := 42 })).room s m ([.ref t1, .ref t2, .int p3] : List Value).toArray below meth cd H locs 0 0 (MQ below (va_Qi (fun (rr : Int32) (_ : Unit) => rr = rv) (fun _ => zB D cy base K L (c, r, o)) (zA base)) ([.ref t1, .ref t2, .int p3] : List Value).toArray s 0 0 (zA base)) (F0 m 23 ls []) := by
    intro n23
    induction n23 with
    | zero => intro H locs ls v3 hC hl hf; rw [f_X6_isCookNearCloth_23] at hf; cases hf
    | succ n23 ih23 =>
      intro H locs ls v3 hC hl hf
      rw [f_X6_isCookNearCloth_23] at hf
      refine lv_iload_n hx hb dX6_isCookNearCloth_23 rfl (lv_at hl 3 rfl) ?_
      refine lv_aload_n hx hb dX6_isCookNearCloth_24 rfl (lv_at hl 1 rfl) ?_
      refine zg_4_2 hx hb hts hi4 hown hK hC hk_t2 w1 dX6_isCookNearCloth_25 ?_
      refine lv_bipush (v := 6) hx hb dX6_isCookNearCloth_28 (by decide) ?_
      refine lv_iadd hx hb dX6_isCookNearCloth_30 ?_
      refine lv_icmp_ge (tgt := 71) hx hb dX6_isCookNearCloth_31 (by decide) (fun h11 => ?_) (fun h11 => ?_)
      · have hf := zif_t hf h11
        refine lv_iconst (v := 0) hx hb dX6_isCookNearCloth_71 (by decide) ?_
        exact z_zret hx hb hr hlocks hC (Or.inl rfl) hf dX6_isCookNearCloth_72
      · have hf := zif_f hf h11
        refine lv_aload_n hx hb dX6_isCookNearCloth_34 rfl (lv_at hl 0 rfl) ?_
        refine lv_iload_n hx hb dX6_isCookNearCloth_35 rfl (lv_at hl 2 rfl) ?_
        refine lv_iload_n hx hb dX6_isCookNearCloth_36 rfl (lv_at hl 3 rfl) ?_
        refine lv_iadd hx hb dX6_isCookNearCloth_37 ?_
        obtain ⟨o2, hc1, hf⟩ := zb_inv hf
        refine z_cq (z_rV (As := [.int (p3 + v3)]) (rest := []) ⟨hx, hb, hml, hown, hts⟩ (c_X0_holderAt (l := l) (D := D) (cy := cy) (base := base) (st := st) (K := K) (L := L) (c := c) (r := r) (o := o) (z := z) t1 (p3 + v3) hk_t1 hc1) (cwV 1 hts gX6_isCookNearCloth_X0_holderAt rfl rfl rfl (by decide +kernel) ⟨Nat.le_of_ble_eq_true rfl, Nat.le_of_ble_eq_true rfl⟩) hG hC (zC.recv (ci := 0) (fs := _) hK hC (by rw [hk_t1]; decide) (by rw [hk_t1]; exact zc_0 cy _ _) rfl) rfl hl.1 rfl (lv_room (Nat.le_of_ble_eq_true rfl)) dX6_isCookNearCloth_38 ⟨Nat.le_of_ble_eq_true rfl, Nat.le_of_ble_eq_true rfl⟩) hC (fun H locs hC => ?_)
        refine z_astore (lv' := [(4, va_rf o2), (0, .ref t1), (1, .ref t2), (2, .int p3), (3, .int v3)]) hx hb dX6_isCookNearCloth_41 hl (by decide) rfl (fun ls hl => ?_)
        refine z_aload hx hb dX6_isCookNearCloth_43 (lv_at hl 0 rfl) ?_
        rcases zo_inv hf with ⟨e0, hf0⟩ | ⟨a3, e0, hk_a3, hf0⟩
        · subst e0; have hf := hf0
          have hl : lv_has ls 5 [(4, .null), (0, .ref t1), (1, .ref t2), (2, .int p3), (3, .int v3)] := hl
          refine lv_ifnullN (tgt := 65) hx hb dX6_isCookNearCloth_45 (by decide) ?_
          obtain ⟨x4, ex4, hf⟩ := zlet_inv hf
          refine lv_iinc (v := x4) (lv' := [(3, .int x4), (4, .null), (0, .ref t1), (1, .ref t2), (2, .int p3)]) hx hb dX6_isCookNearCloth_65 hl (k := 4) rfl (by rw [ex4]; rfl) (by decide) rfl (fun ls hl => ?_)
          refine lv_goto (tgt := 23) hx hb dX6_isCookNearCloth_68 (by decide) ?_
          exact ih23 _ _ _ x4 hC (lv_sub hl [2, 3, 4, 0] rfl) hf
        · subst e0; have hf := hf0
          have hl : lv_has ls 5 [(4, .ref a3), (0, .ref t1), (1, .ref t2), (2, .int p3), (3, .int v3)] := hl
          refine lv_ifnull hx hb dX6_isCookNearCloth_45 ?_
          refine lv_aload hx hb dX6_isCookNearCloth_48 (lv_at hl 0 rfl) ?_
          refine lv_aload_n hx hb dX6_isCookNearCloth_50 rfl (lv_at hl 2 rfl) ?_
          refine z_acmp_eq (tgt := 65) hx hb dX6_isCookNearCloth_51 (by decide) (fun h10 => ?_) (fun h10 => ?_)
          · have hf := zif_t hf h10
            obtain ⟨x5, ex5, hf⟩ := zlet_inv hf
            refine lv_iinc (v := x5) (lv' := [(3, .int x5), (4, .ref a3), (0, .ref t1), (1, .ref t2), (2, .int p3)]) hx hb dX6_isCookNearCloth_65 hl (k := 4) rfl (by rw [ex5]; rfl) (by decide) rfl (fun ls hl => ?_)
            refine lv_goto (tgt := 23) hx hb dX6_isCookNearCloth_68 (by decide) ?_
            exact ih23 _ _ _ x5 hC (lv_sub hl [2, 3, 4, 0] rfl) hf
          · have hf := zif_f hf h10
            refine lv_aload_n hx hb dX6_isCookNearCloth_54 rfl (lv_at hl 2 rfl) ?_
            refine lv_aload hx hb dX6_isCookNearCloth_55 (lv_at hl 0 rfl) ?_
            obtain ⟨x7, hc6, hf⟩ := zb_inv hf
            refine z_ci (z_rS (b := 0) (As := [.ref t2, .ref a3]) (rest := []) ⟨hx, hb, hml, hown, hts⟩ (c_X6_doesSpoil (l := l) (D := D) (cy := cy) (base := base) (st := st) (K := K) (L := L) (c := c) (r := r) (o := o) (z := z) t2 a3 hk_t2 hk_a3 hc6) (va_cwS 2 hts gX6_isCookNearCloth_X6_doesSpoil rfl rfl rfl (by decide +kernel) ⟨Nat.le_of_ble_eq_true rfl, Nat.le_of_ble_eq_true rfl⟩) hG hC rfl hl.1 rfl (lv_room (Nat.le_of_ble_eq_true rfl)) dX6_isCookNearCloth_57 ⟨Nat.le_of_ble_eq_true rfl, Nat.le_of_ble_eq_true rfl⟩) hC (fun H locs hC => ?_)
            refine lv_if_eq (tgt := 65) hx hb dX6_isCookNearCloth_60 (by decide) (fun h9 => ?_) (fun h9 => ?_)
            · have hf := zif_t hf h9
              obtain ⟨x8, ex8, hf⟩ := zlet_inv hf
              refine lv_iinc (v := x8) (lv' := [(3, .int x8), (4, .ref a3), (0, .ref t1), (1, .ref t2), (2, .int p3)]) hx hb dX6_isCookNearCloth_65 hl (k := 4) rfl (by rw [ex8]; rfl) (by decide) rfl (fun ls hl => ?_)
              refine lv_goto (tgt := 23) hx hb dX6_isCookNearCloth_68 (by decide) ?_
              exact ih23 _ _ _ x8 hC (lv_sub hl [2, 3, 4, 0] rfl) hf
            · have hf := zif_f hf h9
              refine lv_iconst (v := 1) hx hb dX6_isCookNearCloth_63 (by decide) ?_
              exact z_zret hx hb hr hlocks hC (Or.inr rfl) hf dX6_isCookNearCloth_64
  unfold f_X6_isCookNearCloth at hf
  refine lv_aload_n hx hb dX6_isCookNearCloth_0 rfl (lv_at hl 1 rfl) ?_
  refine zg_4_6 hx hb hts hi4 hown hK hC hk_t2 w0 dX6_isCookNearCloth_1 ?_
  refine lv_iconst (v := 3) hx hb dX6_isCookNearCloth_4 (by decide) ?_
  refine lv_icmp_eq (tgt := 20) hx hb dX6_isCookNearCloth_5 (by decide) (fun h14 => ?_) (fun h14 => ?_)
  · have hf := zif_t hf h14
    refine lv_bipush (v := (-6)) hx hb dX6_isCookNearCloth_20 (by decide) ?_
    refine lv_istore_n (lv' := [(3, .int (-6)), (0, .ref t1), (1, .ref t2), (2, .int p3)]) hx hb dX6_isCookNearCloth_22 rfl hl (by decide) rfl (fun ls hl => ?_)
    exact L23 z _ _ _ (-6) hC (lv_sub hl [1, 2, 3, 0] rfl) hf
  · have hf := zif_f hf h14
    refine lv_aload_n hx hb dX6_isCookNearCloth_8 rfl (lv_at hl 1 rfl) ?_
    refine zg_4_1 hx hb hts hi4 hown hK hC hk_t2 w2 dX6_isCookNearCloth_9 ?_
    obtain ⟨a12, ea12, hk_a12, hf⟩ := zn_inv hf
    refine z_ref ea12 ?_
    refine zg_3_3 hx hb hts hi3 hown hK hC hk_a12 w3 dX6_isCookNearCloth_12 ?_
    refine lv_if_ne (tgt := 20) hx hb dX6_isCookNearCloth_15 (by decide) (fun h13 => ?_) (fun h13 => ?_)
    · have hf := zif_f hf h13
      refine lv_bipush (v := (-6)) hx hb dX6_isCookNearCloth_20 (by decide) ?_
      refine lv_istore_n (lv' := [(3, .int (-6)), (0, .ref t1), (1, .ref t2), (2, .int p3)]) hx hb dX6_isCookNearCloth_22 rfl hl (by decide) rfl (fun ls hl => ?_)
      exact L23 z _ _ _ (-6) hC (lv_sub hl [1, 2, 3, 0] rfl) hf
    · have hf := zif_t hf h13
      refine lv_iconst (v := 0) hx hb dX6_isCookNearCloth_18 (by decide) ?_
      exact z_zret hx hb hr hlocks hC (Or.inl rfl) hf dX6_isCookNearCloth_19
def f_X4_isOfMonth (K : Nat → Nat) (z : Nat) (c : zS) (th : Nat) (p1 : Int32) : Option Int32 :=
  (if (((zi c 88 th 0) >>> (p1 &&& 31)) &&& 1) = 1 then some 1 else some 0)
set_option maxRecDepth 100000 in
set_option maxHeartbeats 4000000 in
theorem c_X4_isOfMonth {l : Launch} {D : va_G} {cy : Nat → ClassId} {base : Nat} {st : Nat → Nat} {K : Nat → Nat} {L : List Nat} {c r : zS} {o : Int64} {z : Nat} (th : Nat) (p1 : Int32) {rv : Int32}  (hk_th : K th = 4) (hf : f_X4_isOfMonth K z c th p1 = some rv) : Met l yX4_isOfMonth wsX4_isOfMonth ({ frames := 0, cells := 0, slots := 0, locals := 0 }) (va_Pc [.ref th, .int p1] (zGW zts0 zns0 D cy base st K L (c, r, o))) (va_Qi (fun (rr : Int32) (_ : Unit) => rr = rv) (fun _ => zB D cy base K L (c, r, o)) (zA base)) 0 0 (zA base) := by
  refine Met.ofW (cc := cX4_isOfMonth) (maxL := 2) (ret := (some .boolean)) (by decide) rfl ?_
  intro p e s m args below meth cd s₁ B hml hv
  obtain ⟨rfl, hG⟩ := hv
  have hx := B.exec
  have hb := B.bytes
  have hr := B.returns
  have hts := atoms_spec (ws := wsX4_isOfMonth) B.pre
  have hown : s.vm.findClass RX4 = some m.cls := findClass_of_methodNamed B.named
  have hlocks := B.notSynchronized
  have hC := hG.enter
  have hK := hG.2.2.2.1
  have hi4 : ∀ w ∈ wsX40, w ∈ wsX4_isOfMonth := by decide +kernel
  have w0 := hts (.fieldLink RX4 32 "MarketSquare$Trader" "months" "I") (by decide +kernel)
  have hl := lv_entry ([.ref th, .int p1]) (n := 2) (Nat.le_of_ble_eq_true rfl)
  rw [lg_entry_eq]
  generalize (lg_sl ([.ref th, .int p1]) ++ List.replicate (2 - (lg_sl ([.ref th, .int p1])).length) Slot.unset).toArray = ls at hl ⊢
  have hl : lv_has ls 2 [(0, .ref th), (1, .int p1)] := hl
  unfold f_X4_isOfMonth at hf
  refine lv_aload_n hx hb dX4_isOfMonth_0 rfl (lv_at hl 0 rfl) ?_
  refine zg_4_8 hx hb hts hi4 hown hK hC hk_th w0 dX4_isOfMonth_1 ?_
  refine lv_iload_n hx hb dX4_isOfMonth_4 rfl (lv_at hl 1 rfl) ?_
  refine lv_ishr hx hb dX4_isOfMonth_5 ?_
  refine lv_iconst (v := 1) hx hb dX4_isOfMonth_6 (by decide) ?_
  refine lv_iand hx hb dX4_isOfMonth_7 ?_
  refine lv_iconst (v := 1) hx hb dX4_isOfMonth_8 (by decide) ?_
  refine lv_icmp_ne (tgt := 16) hx hb dX4_isOfMonth_9 (by decide) (fun h1 => ?_) (fun h1 => ?_)
  · have hf := zif_f hf h1
    refine lv_iconst (v := 0) hx hb dX4_isOfMonth_16 (by decide) ?_
    exact z_zret hx hb hr hlocks hC (Or.inl rfl) hf dX4_isOfMonth_17
  · have hf := zif_t hf h1
    refine lv_iconst (v := 1) hx hb dX4_isOfMonth_12 (by decide) ?_
    refine lv_goto (tgt := 17) hx hb dX4_isOfMonth_13 (by decide) ?_
    exact z_zret hx hb hr hlocks hC (Or.inr rfl) hf dX4_isOfMonth_17
def f_X6_isOutOfMonth (K : Nat → Nat) (z : Nat) (c : zS) (th : Nat) (t1 : Nat) : Option Int32 :=
  (if (zi c 86 t1 0) = 2 then zb (f_X4_isOfMonth K z c t1 (zi c 130 th 0)) fun x2 => (if x2 = 0 then some 1 else some 0) else some 0)
set_option maxRecDepth 100000 in
set_option maxHeartbeats 4000000 in
theorem c_X6_isOutOfMonth {l : Launch} {D : va_G} {cy : Nat → ClassId} {base : Nat} {st : Nat → Nat} {K : Nat → Nat} {L : List Nat} {c r : zS} {o : Int64} {z : Nat} (th : Nat) (t1 : Nat) {rv : Int32}  (hk_th : K th = 6) (hk_t1 : K t1 = 4) (hf : f_X6_isOutOfMonth K z c th t1 = some rv) : Met l yX6_isOutOfMonth wsX6_isOutOfMonth ({ frames := 1, cells := 0, slots := 0, locals := 21 }) (va_Pc [.ref th, .ref t1] (zGW zts0 zns0 D cy base st K L (c, r, o))) (va_Qi (fun (rr : Int32) (_ : Unit) => rr = rv) (fun _ => zB D cy base K L (c, r, o)) (zA base)) 0 0 (zA base) := by
  refine Met.ofW (cc := cX6_isOutOfMonth) (maxL := 2) (ret := (some .boolean)) (by decide) rfl ?_
  intro p e s m args below meth cd s₁ B hml hv
  obtain ⟨rfl, hG⟩ := hv
  have hx := B.exec
  have hb := B.bytes
  have hr := B.returns
  have hts := atoms_spec (ws := wsX6_isOutOfMonth) B.pre
  have hown : s.vm.findClass RX6 = some m.cls := findClass_of_methodNamed B.named
  have hlocks := B.notSynchronized
  have hC := hG.enter
  have hK := hG.2.2.2.1
  have hi4 : ∀ w ∈ wsX40, w ∈ wsX6_isOutOfMonth := by decide +kernel
  have hi6 : ∀ w ∈ wsX60, w ∈ wsX6_isOutOfMonth := by decide +kernel
  have w0 := hts (.fieldLink RX6 115 "MarketSquare$Trader" "kind" "I") (by decide +kernel)
  have w1 := hts (.fieldLink RX6 156 "MarketSquare" "month" "I") (by decide +kernel)
  have hl := lv_entry ([.ref th, .ref t1]) (n := 2) (Nat.le_of_ble_eq_true rfl)
  rw [lg_entry_eq]
  generalize (lg_sl ([.ref th, .ref t1]) ++ List.replicate (2 - (lg_sl ([.ref th, .ref t1])).length) Slot.unset).toArray = ls at hl ⊢
  have hl : lv_has ls 2 [(0, .ref th), (1, .ref t1)] := hl
  unfold f_X6_isOutOfMonth at hf
  refine lv_aload_n hx hb dX6_isOutOfMonth_0 rfl (lv_at hl 1 rfl) ?_
  refine zg_4_6 hx hb hts hi4 hown hK hC hk_t1 w0 dX6_isOutOfMonth_1 ?_
  refine lv_iconst (v := 2) hx hb dX6_isOutOfMonth_4 (by decide) ?_
  refine lv_icmp_ne (tgt := 23) hx hb dX6_isOutOfMonth_5 (by decide) (fun h4 => ?_) (fun h4 => ?_)
  · have hf := zif_f hf h4
    refine lv_iconst (v := 0) hx hb dX6_isOutOfMonth_23 (by decide) ?_
    exact z_zret hx hb hr hlocks hC (Or.inl rfl) hf dX6_isOutOfMonth_24
  · have hf := zif_t hf h4
    refine lv_aload_n hx hb dX6_isOutOfMonth_8 rfl (lv_at hl 1 rfl) ?_
    refine lv_aload_n hx hb dX6_isOutOfMonth_9 rfl (lv_at hl 0 rfl) ?_
    refine zg_6_10 hx hb hts hi6 hown hK hC hk_th w1 dX6_isOutOfMonth_10 ?_
    obtain ⟨x2, hc1, hf⟩ := zb_inv hf
    refine z_ci (z_rV (As := [.int (zi c 130 th 0)]) (rest := []) ⟨hx, hb, hml, hown, hts⟩ (c_X4_isOfMonth (l := l) (D := D) (cy := cy) (base := base) (st := st) (K := K) (L := L) (c := c) (r := r) (o := o) (z := z) t1 (zi c 130 th 0) hk_t1 hc1) (cwV 1 hts gX6_isOutOfMonth_X4_isOfMonth rfl rfl rfl (by decide +kernel) ⟨Nat.le_of_ble_eq_true rfl, Nat.le_of_ble_eq_true rfl⟩) hG hC (zC.recv (ci := 4) (fs := _) hK hC (by rw [hk_t1]; decide) (by rw [hk_t1]; exact zc_4 cy _ _) rfl) rfl hl.1 rfl (lv_room (Nat.le_of_ble_eq_true rfl)) dX6_isOutOfMonth_13 ⟨Nat.le_of_ble_eq_true rfl, Nat.le_of_ble_eq_true rfl⟩) hC (fun H locs hC => ?_)
    refine lv_if_ne (tgt := 23) hx hb dX6_isOutOfMonth_16 (by decide) (fun h3 => ?_) (fun h3 => ?_)
    · have hf := zif_f hf h3
      refine lv_iconst (v := 0) hx hb dX6_isOutOfMonth_23 (by decide) ?_
      exact z_zret hx hb hr hlocks hC (Or.inl rfl) hf dX6_isOutOfMonth_24
    · have hf := zif_t hf h3
      refine lv_iconst (v := 1) hx hb dX6_isOutOfMonth_19 (by decide) ?_
      refine lv_goto (tgt := 24) hx hb dX6_isOutOfMonth_20 (by decide) ?_
      exact z_zret hx hb hr hlocks hC (Or.inr rfl) hf dX6_isOutOfMonth_24
def f_X6_isSecondCharity (K : Nat → Nat) (z : Nat) (c : zS) (th : Nat) (t1 : Nat) : Option Int32 :=
  (if (zi c 86 t1 0) = 4 then zn K (zr c 85 t1 0) 2 fun a1 => zn K (zr c 40 a1 0) 1 fun a2 => zb (f_X6_oneIf K z c (zi c 20 a2 0)) fun x4 => (if ((zi c 133 th 0) - x4) ≤ 0 then some 0 else some 1) else some 0)
set_option maxRecDepth 100000 in
set_option maxHeartbeats 4000000 in
theorem c_X6_isSecondCharity {l : Launch} {D : va_G} {cy : Nat → ClassId} {base : Nat} {st : Nat → Nat} {K : Nat → Nat} {L : List Nat} {c r : zS} {o : Int64} {z : Nat} (th : Nat) (t1 : Nat) {rv : Int32}  (hk_th : K th = 6) (hk_t1 : K t1 = 4) (hf : f_X6_isSecondCharity K z c th t1 = some rv) : Met l yX6_isSecondCharity wsX6_isSecondCharity ({ frames := 1, cells := 0, slots := 0, locals := 20 }) (va_Pc [.ref th, .ref t1] (zGW zts0 zns0 D cy base st K L (c, r, o))) (va_Qi (fun (rr : Int32) (_ : Unit) => rr = rv) (fun _ => zB D cy base K L (c, r, o)) (zA base)) 0 0 (zA base) := by
  refine Met.ofW (cc := cX6_isSecondCharity) (maxL := 2) (ret := (some .boolean)) (by decide) rfl ?_
  intro p e s m args below meth cd s₁ B hml hv
  obtain ⟨rfl, hG⟩ := hv
  have hx := B.exec
  have hb := B.bytes
  have hr := B.returns
  have hts := atoms_spec (ws := wsX6_isSecondCharity) B.pre
  have hown : s.vm.findClass RX6 = some m.cls := findClass_of_methodNamed B.named
  have hlocks := B.notSynchronized
  have hC := hG.enter
  have hK := hG.2.2.2.1
  have hi1 : ∀ w ∈ wsX10, w ∈ wsX6_isSecondCharity := by decide +kernel
  have hi2 : ∀ w ∈ wsX20, w ∈ wsX6_isSecondCharity := by decide +kernel
  have hi4 : ∀ w ∈ wsX40, w ∈ wsX6_isSecondCharity := by decide +kernel
  have hi6 : ∀ w ∈ wsX60, w ∈ wsX6_isSecondCharity := by decide +kernel
  have w0 := hts (.fieldLink RX6 115 "MarketSquare$Trader" "kind" "I") (by decide +kernel)
  have w1 := hts (.fieldLink RX6 387 "MarketSquare" "charities" "I") (by decide +kernel)
  have w2 := hts (.fieldLink RX6 168 "MarketSquare$Trader" "today" "LMarketSquare$Today;") (by decide +kernel)
  have w3 := hts (.fieldLink RX6 224 "MarketSquare$Today" "stall" "LMarketSquare$Spot;") (by decide +kernel)
  have w4 := hts (.fieldLink RX6 227 "MarketSquare$Spot" "isSet" "Z") (by decide +kernel)
  have hl := lv_entry ([.ref th, .ref t1]) (n := 2) (Nat.le_of_ble_eq_true rfl)
  rw [lg_entry_eq]
  generalize (lg_sl ([.ref th, .ref t1]) ++ List.replicate (2 - (lg_sl ([.ref th, .ref t1])).length) Slot.unset).toArray = ls at hl ⊢
  have hl : lv_has ls 2 [(0, .ref th), (1, .ref t1)] := hl
  unfold f_X6_isSecondCharity at hf
  refine lv_aload_n hx hb dX6_isSecondCharity_0 rfl (lv_at hl 1 rfl) ?_
  refine zg_4_6 hx hb hts hi4 hown hK hC hk_t1 w0 dX6_isSecondCharity_1 ?_
  refine lv_iconst (v := 4) hx hb dX6_isSecondCharity_4 (by decide) ?_
  refine lv_icmp_ne (tgt := 33) hx hb dX6_isSecondCharity_5 (by decide) (fun h6 => ?_) (fun h6 => ?_)
  · have hf := zif_f hf h6
    refine lv_iconst (v := 0) hx hb dX6_isSecondCharity_33 (by decide) ?_
    exact z_zret hx hb hr hlocks hC (Or.inl rfl) hf dX6_isSecondCharity_34
  · have hf := zif_t hf h6
    refine lv_aload_n hx hb dX6_isSecondCharity_8 rfl (lv_at hl 0 rfl) ?_
    refine zg_6_13 hx hb hts hi6 hown hK hC hk_th w1 dX6_isSecondCharity_9 ?_
    refine lv_aload_n hx hb dX6_isSecondCharity_12 rfl (lv_at hl 1 rfl) ?_
    refine zg_4_5 hx hb hts hi4 hown hK hC hk_t1 w2 dX6_isSecondCharity_13 ?_
    obtain ⟨a1, ea1, hk_a1, hf⟩ := zn_inv hf
    refine z_ref ea1 ?_
    refine zg_2_0 hx hb hts hi2 hown hK hC hk_a1 w3 dX6_isSecondCharity_16 ?_
    obtain ⟨a2, ea2, hk_a2, hf⟩ := zn_inv hf
    refine z_ref ea2 ?_
    refine zg_1_0 hx hb hts hi1 hown hK hC hk_a2 w4 dX6_isSecondCharity_19 ?_
    obtain ⟨x4, hc3, hf⟩ := zb_inv hf
    refine z_ci (z_rS (b := 0) (As := [.int (zi c 20 a2 0)]) (rest := [.int (zi c 133 th 0)]) ⟨hx, hb, hml, hown, hts⟩ (c_X6_oneIf (l := l) (D := D) (cy := cy) (base := base) (st := st) (K := K) (L := L) (c := c) (r := r) (o := o) (z := z) (zi c 20 a2 0)  hc3) (va_cwS 1 hts gX6_isSecondCharity_X6_oneIf rfl rfl rfl (by decide +kernel) ⟨Nat.le_of_ble_eq_true rfl, Nat.le_of_ble_eq_true rfl⟩) hG hC rfl hl.1 rfl (lv_room (Nat.le_of_ble_eq_true rfl)) dX6_isSecondCharity_22 ⟨Nat.le_of_ble_eq_true rfl, Nat.le_of_ble_eq_true rfl⟩) hC (fun H locs hC => ?_)
    refine lv_isub hx hb dX6_isSecondCharity_25 ?_
    refine lv_if_le (tgt := 33) hx hb dX6_isSecondCharity_26 (by decide) (fun h5 => ?_) (fun h5 => ?_)
    · have hf := zif_t hf h5
      refine lv_iconst (v := 0) hx hb dX6_isSecondCharity_33 (by decide) ?_
      exact z_zret hx hb hr hlocks hC (Or.inl rfl) hf dX6_isSecondCharity_34
    · have hf := zif_f hf h5
      refine lv_iconst (v := 1) hx hb dX6_isSecondCharity_29 (by decide) ?_
      refine lv_goto (tgt := 34) hx hb dX6_isSecondCharity_30 (by decide) ?_
      exact z_zret hx hb hr hlocks hC (Or.inr rfl) hf dX6_isSecondCharity_34
def f_X6_against_119 (K : Nat → Nat) (z : Nat) (c : zS) (th : Nat) (t1 : Nat) (p2 : Int32) (p3 : Int32) (v4 : Nat) : Option Int32 :=
  zb (f_X6_isCookNearCloth K z c v4 t1 p3) fun x19 => (if x19 = 0 then zb (f_X6_isOutOfMonth K z c th t1) fun x21 => (if x21 = 0 then zb (f_X6_isSecondCharity K z c th t1) fun x23 => (if x23 = 0 then some 0 else some 10) else some 9) else some 8)
def f_X6_against (K : Nat → Nat) (z : Nat) (c : zS) (th : Nat) (t1 : Nat) (p2 : Int32) (p3 : Int32) : Option Int32 :=
  zb (f_X6_rowOrNull K z c th p2) fun o2 => zo K o2 0 (some 1) fun a3 => zb (f_X0_hasAll K z c a3 p3 (zi c 82 t1 0)) fun x5 => (if x5 = 0 then some 1 else zb (f_X0_isMarked K z c a3 p3 (zi c 82 t1 0) 3) fun x7 => (if x7 = 0 then zb (f_X0_isTakenByOther K z c a3 t1 p3) fun x9 => (if x9 = 0 then zb (f_X6_isTradeAtLimit K z c t1) fun x11 => (if x11 = 0 then zb (f_X6_isPairedBeside K z c a3 t1 p3) fun x13 => (if x13 = 0 then zb (f_X6_rowOrNull K z c th (p2 ^^^ 1)) fun o15 => zb (f_X6_isPairedAcross K z c o15 t1 p3) fun x17 => (if x17 = 0 then (if (zi c 86 t1 0) = 3 then zb (f_X0_isMarked K z c a3 p3 (zi c 82 t1 0) 4) fun x28 => (if x28 = 0 then some 7 else f_X6_against_119 K z c th t1 p2 p3 a3) else f_X6_against_119 K z c th t1 p2 p3 a3) else some 6) else some 5) else some 4) else some 3) else some 2))
set_option maxRecDepth 100000 in
set_option maxHeartbeats 4000000 in
theorem c_X6_against {l : Launch} {D : va_G} {cy : Nat → ClassId} {base : Nat} {st : Nat → Nat} {K : Nat → Nat} {L : List Nat} {c r : zS} {o : Int64} {z : Nat} (th : Nat) (t1 : Nat) (p2 : Int32) (p3 : Int32) {rv : Int32}  (hk_th : K th = 6) (hk_t1 : K t1 = 4) (hf : f_X6_against K z c th t1 p2 p3 = some rv) : Met l yX6_against wsX6_against ({ frames := 3, cells := 0, slots := 0, locals := 66 }) (va_Pc [.ref th, .ref t1, .int p2, .int p3] (zGW zts0 zns0 D cy base st K L (c, r, o))) (va_Qi (fun (rr : Int32) (_ : Unit) => rr = rv) (fun _ => zB D cy base K L (c, r, o)) (zA base)) 0 0 (zA base) := by
  refine Met.ofW (cc := cX6_against) (maxL := 5) (ret := (some .int)) (by decide) rfl ?_
  intro p e s m args below meth cd s₁ B hml hv
  obtain ⟨rfl, hG⟩ := hv
  have hx := B.exec
  have hb := B.bytes
  have hr := B.returns
  have hts := atoms_spec (ws := wsX6_against) B.pre
  have hown : s.vm.findClass RX6 = some m.cls := findClass_of_methodNamed B.named
  have hlocks := B.notSynchronized
  have hC := hG.enter
  have hK := hG.2.2.2.1
  have hi4 : ∀ w ∈ wsX40, w ∈ wsX6_against := by decide +kernel
  have w0 := hts (.fieldLink RX6 260 "MarketSquare$Trader" "front" "I") (by decide +kernel)
  have w1 := hts (.fieldLink RX6 115 "MarketSquare$Trader" "kind" "I") (by decide +kernel)
  have hl := lv_entry ([.ref th, .ref t1, .int p2, .int p3]) (n := 5) (Nat.le_of_ble_eq_true rfl)
  rw [lg_entry_eq]
  generalize (lg_sl ([.ref th, .ref t1, .int p2, .int p3]) ++ List.replicate (5 - (lg_sl ([.ref th, .ref t1, .int p2, .int p3])).length) Slot.unset).toArray = ls at hl ⊢
  have hl : lv_has ls 5 [(0, .ref th), (1, .ref t1), (2, .int p2), (3, .int p3)] := hl
  have J119 : ∀ (H : Heap) (locs : List Loc) (ls : Array Slot) (v4 : Nat), K v4 = 0 → zC D cy base K L (c, r, o) s.heap H locs → lv_has ls 5 [(0, .ref th), (1, .ref t1), (2, .int p2), (3, .int p3), (4, .ref v4)] → f_X6_against_119 K z c th t1 p2 p3 v4 = some rv → W p l e (headSpec wsX6_against ({ frames := 3, cells := 0, slots := 0, locals := 66 })).room s m ([.ref th, .ref t1, .int p2, .int p3] : List Value).toArray below meth cd H locs 0 0 (MQ below (va_Qi (fun (rr : Int32) (_ : Unit) => rr = rv) (fun _ => zB D cy base K L (c, r, o)) (zA base)) ([.ref th, .ref t1, .int p2, .int p3] : List Value).toArray s 0 0 (zA base)) (F0 m 119 ls []) := by
    intro H locs ls v4 hk_v4 hC hl hf
    unfold f_X6_against_119 at hf
    refine lv_aload hx hb dX6_against_119 (lv_at hl 4 rfl) ?_
    refine lv_aload_n hx hb dX6_against_121 rfl (lv_at hl 1 rfl) ?_
    refine lv_iload_n hx hb dX6_against_122 rfl (lv_at hl 3 rfl) ?_
    obtain ⟨x19, hc18, hf⟩ := zb_inv hf
    refine z_ci (z_rS (b := 0) (As := [.ref v4, .ref t1, .int p3]) (rest := []) ⟨hx, hb, hml, hown, hts⟩ (c_X6_isCookNearCloth (l := l) (D := D) (cy := cy) (base := base) (st := st) (K := K) (L := L) (c := c) (r := r) (o := o) (z := z) v4 t1 p3 hk_v4 hk_t1 hc18) (va_cwS 3 hts gX6_against_X6_isCookNearCloth rfl rfl rfl (by decide +kernel) ⟨Nat.le_of_ble_eq_true rfl, Nat.le_of_ble_eq_true rfl⟩) hG hC rfl hl.1 rfl (lv_room (Nat.le_of_ble_eq_true rfl)) dX6_against_123 ⟨Nat.le_of_ble_eq_true rfl, Nat.le_of_ble_eq_true rfl⟩) hC (fun H locs hC => ?_)
    refine lv_if_eq (tgt := 132) hx hb dX6_against_126 (by decide) (fun h26 => ?_) (fun h26 => ?_)
    · have hf := zif_t hf h26
      refine lv_aload_n hx hb dX6_against_132 rfl (lv_at hl 0 rfl) ?_
      refine lv_aload_n hx hb dX6_against_133 rfl (lv_at hl 1 rfl) ?_
      obtain ⟨x21, hc20, hf⟩ := zb_inv hf
      refine z_ci (z_rV (As := [.ref t1]) (rest := []) ⟨hx, hb, hml, hown, hts⟩ (c_X6_isOutOfMonth (l := l) (D := D) (cy := cy) (base := base) (st := st) (K := K) (L := L) (c := c) (r := r) (o := o) (z := z) th t1 hk_th hk_t1 hc20) (cwV 1 hts gX6_against_X6_isOutOfMonth rfl rfl rfl (by decide +kernel) ⟨Nat.le_of_ble_eq_true rfl, Nat.le_of_ble_eq_true rfl⟩) hG hC (zC.recv (ci := 6) (fs := _) hK hC (by rw [hk_th]; decide) (by rw [hk_th]; exact zc_6 cy _ _) rfl) rfl hl.1 rfl (lv_room (Nat.le_of_ble_eq_true rfl)) dX6_against_134 ⟨Nat.le_of_ble_eq_true rfl, Nat.le_of_ble_eq_true rfl⟩) hC (fun H locs hC => ?_)
      refine lv_if_eq (tgt := 143) hx hb dX6_against_137 (by decide) (fun h25 => ?_) (fun h25 => ?_)
      · have hf := zif_t hf h25
        refine lv_aload_n hx hb dX6_against_143 rfl (lv_at hl 0 rfl) ?_
        refine lv_aload_n hx hb dX6_against_144 rfl (lv_at hl 1 rfl) ?_
        obtain ⟨x23, hc22, hf⟩ := zb_inv hf
        refine z_ci (z_rV (As := [.ref t1]) (rest := []) ⟨hx, hb, hml, hown, hts⟩ (c_X6_isSecondCharity (l := l) (D := D) (cy := cy) (base := base) (st := st) (K := K) (L := L) (c := c) (r := r) (o := o) (z := z) th t1 hk_th hk_t1 hc22) (cwV 1 hts gX6_against_X6_isSecondCharity rfl rfl rfl (by decide +kernel) ⟨Nat.le_of_ble_eq_true rfl, Nat.le_of_ble_eq_true rfl⟩) hG hC (zC.recv (ci := 6) (fs := _) hK hC (by rw [hk_th]; decide) (by rw [hk_th]; exact zc_6 cy _ _) rfl) rfl hl.1 rfl (lv_room (Nat.le_of_ble_eq_true rfl)) dX6_against_145 ⟨Nat.le_of_ble_eq_true rfl, Nat.le_of_ble_eq_true rfl⟩) hC (fun H locs hC => ?_)
        refine lv_if_eq (tgt := 156) hx hb dX6_against_148 (by decide) (fun h24 => ?_) (fun h24 => ?_)
        · have hf := zif_t hf h24
          refine lv_iconst (v := 0) hx hb dX6_against_156 (by decide) ?_
          exact z_iret hx hb hr hlocks hC hf dX6_against_157
        · have hf := zif_f hf h24
          refine lv_bipush (v := 10) hx hb dX6_against_151 (by decide) ?_
          refine lv_goto (tgt := 157) hx hb dX6_against_153 (by decide) ?_
          exact z_iret hx hb hr hlocks hC hf dX6_against_157
      · have hf := zif_f hf h25
        refine lv_bipush (v := 9) hx hb dX6_against_140 (by decide) ?_
        exact z_iret hx hb hr hlocks hC hf dX6_against_142
    · have hf := zif_f hf h26
      refine lv_bipush (v := 8) hx hb dX6_against_129 (by decide) ?_
      exact z_iret hx hb hr hlocks hC hf dX6_against_131
  unfold f_X6_against at hf
  refine lv_aload_n hx hb dX6_against_0 rfl (lv_at hl 0 rfl) ?_
  refine lv_iload_n hx hb dX6_against_1 rfl (lv_at hl 2 rfl) ?_
  obtain ⟨o2, hc1, hf⟩ := zb_inv hf
  refine z_cq (z_rV (As := [.int p2]) (rest := []) ⟨hx, hb, hml, hown, hts⟩ (c_X6_rowOrNull (l := l) (D := D) (cy := cy) (base := base) (st := st) (K := K) (L := L) (c := c) (r := r) (o := o) (z := z) th p2 hk_th hc1) (cwV 1 hts gX6_against_X6_rowOrNull rfl rfl rfl (by decide +kernel) ⟨Nat.le_of_ble_eq_true rfl, Nat.le_of_ble_eq_true rfl⟩) hG hC (zC.recv (ci := 6) (fs := _) hK hC (by rw [hk_th]; decide) (by rw [hk_th]; exact zc_6 cy _ _) rfl) rfl hl.1 rfl (lv_room (Nat.le_of_ble_eq_true rfl)) dX6_against_2 ⟨Nat.le_of_ble_eq_true rfl, Nat.le_of_ble_eq_true rfl⟩) hC (fun H locs hC => ?_)
  refine z_astore (lv' := [(4, va_rf o2), (0, .ref th), (1, .ref t1), (2, .int p2), (3, .int p3)]) hx hb dX6_against_5 hl (by decide) rfl (fun ls hl => ?_)
  refine z_aload hx hb dX6_against_7 (lv_at hl 0 rfl) ?_
  rcases zo_inv hf with ⟨e0, hf0⟩ | ⟨a3, e0, hk_a3, hf0⟩
  · subst e0; have hf := hf0
    have hl : lv_has ls 5 [(4, .null), (0, .ref th), (1, .ref t1), (2, .int p2), (3, .int p3)] := hl
    refine lv_ifnullN (tgt := 25) hx hb dX6_against_9 (by decide) ?_
    refine lv_iconst (v := 1) hx hb dX6_against_25 (by decide) ?_
    exact z_iret hx hb hr hlocks hC hf dX6_against_26
  · subst e0; have hf := hf0
    have hl : lv_has ls 5 [(4, .ref a3), (0, .ref th), (1, .ref t1), (2, .int p2), (3, .int p3)] := hl
    refine lv_ifnull hx hb dX6_against_9 ?_
    refine lv_aload hx hb dX6_against_12 (lv_at hl 0 rfl) ?_
    refine lv_iload_n hx hb dX6_against_14 rfl (lv_at hl 4 rfl) ?_
    refine lv_aload_n hx hb dX6_against_15 rfl (lv_at hl 2 rfl) ?_
    refine zg_4_2 hx hb hts hi4 hown hK hC hk_t1 w0 dX6_against_16 ?_
    obtain ⟨x5, hc4, hf⟩ := zb_inv hf
    refine z_ci (z_rV (As := [.int p3, .int (zi c 82 t1 0)]) (rest := []) ⟨hx, hb, hml, hown, hts⟩ (c_X0_hasAll (l := l) (D := D) (cy := cy) (base := base) (st := st) (K := K) (L := L) (c := c) (r := r) (o := o) (z := z) a3 p3 (zi c 82 t1 0) hk_a3 hc4) (cwV 2 hts gX6_against_X0_hasAll rfl rfl rfl (by decide +kernel) ⟨Nat.le_of_ble_eq_true rfl, Nat.le_of_ble_eq_true rfl⟩) hG hC (zC.recv (ci := 0) (fs := _) hK hC (by rw [hk_a3]; decide) (by rw [hk_a3]; exact zc_0 cy _ _) rfl) rfl hl.1 rfl (lv_room (Nat.le_of_ble_eq_true rfl)) dX6_against_19 ⟨Nat.le_of_ble_eq_true rfl, Nat.le_of_ble_eq_true rfl⟩) hC (fun H locs hC => ?_)
    refine lv_if_ne (tgt := 27) hx hb dX6_against_22 (by decide) (fun h36 => ?_) (fun h36 => ?_)
    · have hf := zif_f hf h36
      refine lv_aload hx hb dX6_against_27 (lv_at hl 0 rfl) ?_
      refine lv_iload_n hx hb dX6_against_29 rfl (lv_at hl 4 rfl) ?_
      refine lv_aload_n hx hb dX6_against_30 rfl (lv_at hl 2 rfl) ?_
      refine zg_4_2 hx hb hts hi4 hown hK hC hk_t1 w0 dX6_against_31 ?_
      refine lv_iconst (v := 3) hx hb dX6_against_34 (by decide) ?_
      obtain ⟨x7, hc6, hf⟩ := zb_inv hf
      refine z_ci (z_rV (As := [.int p3, .int (zi c 82 t1 0), .int 3]) (rest := []) ⟨hx, hb, hml, hown, hts⟩ (c_X0_isMarked (l := l) (D := D) (cy := cy) (base := base) (st := st) (K := K) (L := L) (c := c) (r := r) (o := o) (z := z) a3 p3 (zi c 82 t1 0) 3 hk_a3 hc6) (cwV 3 hts gX6_against_X0_isMarked rfl rfl rfl (by decide +kernel) ⟨Nat.le_of_ble_eq_true rfl, Nat.le_of_ble_eq_true rfl⟩) hG hC (zC.recv (ci := 0) (fs := _) hK hC (by rw [hk_a3]; decide) (by rw [hk_a3]; exact zc_0 cy _ _) rfl) rfl hl.1 rfl (lv_room (Nat.le_of_ble_eq_true rfl)) dX6_against_35 ⟨Nat.le_of_ble_eq_true rfl, Nat.le_of_ble_eq_true rfl⟩) hC (fun H locs hC => ?_)
      refine lv_if_eq (tgt := 43) hx hb dX6_against_38 (by decide) (fun h35 => ?_) (fun h35 => ?_)
      · have hf := zif_t hf h35
        refine lv_aload hx hb dX6_against_43 (lv_at hl 0 rfl) ?_
        refine lv_aload_n hx hb dX6_against_45 rfl (lv_at hl 2 rfl) ?_
        refine lv_iload_n hx hb dX6_against_46 rfl (lv_at hl 4 rfl) ?_
        obtain ⟨x9, hc8, hf⟩ := zb_inv hf
        refine z_ci (z_rV (As := [.ref t1, .int p3]) (rest := []) ⟨hx, hb, hml, hown, hts⟩ (c_X0_isTakenByOther (l := l) (D := D) (cy := cy) (base := base) (st := st) (K := K) (L := L) (c := c) (r := r) (o := o) (z := z) a3 t1 p3 hk_a3 hk_t1 hc8) (cwV 2 hts gX6_against_X0_isTakenByOther rfl rfl rfl (by decide +kernel) ⟨Nat.le_of_ble_eq_true rfl, Nat.le_of_ble_eq_true rfl⟩) hG hC (zC.recv (ci := 0) (fs := _) hK hC (by rw [hk_a3]; decide) (by rw [hk_a3]; exact zc_0 cy _ _) rfl) rfl hl.1 rfl (lv_room (Nat.le_of_ble_eq_true rfl)) dX6_against_47 ⟨Nat.le_of_ble_eq_true rfl, Nat.le_of_ble_eq_true rfl⟩) hC (fun H locs hC => ?_)
        refine lv_if_eq (tgt := 55) hx hb dX6_against_50 (by decide) (fun h34 => ?_) (fun h34 => ?_)
        · have hf := zif_t hf h34
          refine lv_aload_n hx hb dX6_against_55 rfl (lv_at hl 2 rfl) ?_
          obtain ⟨x11, hc10, hf⟩ := zb_inv hf
          refine z_ci (z_rS (b := 0) (As := [.ref t1]) (rest := []) ⟨hx, hb, hml, hown, hts⟩ (c_X6_isTradeAtLimit (l := l) (D := D) (cy := cy) (base := base) (st := st) (K := K) (L := L) (c := c) (r := r) (o := o) (z := z) t1 hk_t1 hc10) (va_cwS 1 hts gX6_against_X6_isTradeAtLimit rfl rfl rfl (by decide +kernel) ⟨Nat.le_of_ble_eq_true rfl, Nat.le_of_ble_eq_true rfl⟩) hG hC rfl hl.1 rfl (lv_room (Nat.le_of_ble_eq_true rfl)) dX6_against_56 ⟨Nat.le_of_ble_eq_true rfl, Nat.le_of_ble_eq_true rfl⟩) hC (fun H locs hC => ?_)
          refine lv_if_eq (tgt := 64) hx hb dX6_against_59 (by decide) (fun h33 => ?_) (fun h33 => ?_)
          · have hf := zif_t hf h33
            refine lv_aload hx hb dX6_against_64 (lv_at hl 0 rfl) ?_
            refine lv_aload_n hx hb dX6_against_66 rfl (lv_at hl 2 rfl) ?_
            refine lv_iload_n hx hb dX6_against_67 rfl (lv_at hl 4 rfl) ?_
            obtain ⟨x13, hc12, hf⟩ := zb_inv hf
            refine z_ci (z_rS (b := 0) (As := [.ref a3, .ref t1, .int p3]) (rest := []) ⟨hx, hb, hml, hown, hts⟩ (c_X6_isPairedBeside (l := l) (D := D) (cy := cy) (base := base) (st := st) (K := K) (L := L) (c := c) (r := r) (o := o) (z := z) a3 t1 p3 hk_a3 hk_t1 hc12) (va_cwS 3 hts gX6_against_X6_isPairedBeside rfl rfl rfl (by decide +kernel) ⟨Nat.le_of_ble_eq_true rfl, Nat.le_of_ble_eq_true rfl⟩) hG hC rfl hl.1 rfl (lv_room (Nat.le_of_ble_eq_true rfl)) dX6_against_68 ⟨Nat.le_of_ble_eq_true rfl, Nat.le_of_ble_eq_true rfl⟩) hC (fun H locs hC => ?_)
            refine lv_if_eq (tgt := 76) hx hb dX6_against_71 (by decide) (fun h32 => ?_) (fun h32 => ?_)
            · have hf := zif_t hf h32
              refine lv_aload_n hx hb dX6_against_76 rfl (lv_at hl 1 rfl) ?_
              refine lv_iload_n hx hb dX6_against_77 rfl (lv_at hl 3 rfl) ?_
              refine lv_iconst (v := 1) hx hb dX6_against_78 (by decide) ?_
              refine lv_ixor hx hb dX6_against_79 ?_
              obtain ⟨o15, hc14, hf⟩ := zb_inv hf
              refine z_cq (z_rV (As := [.int (p2 ^^^ 1)]) (rest := []) ⟨hx, hb, hml, hown, hts⟩ (c_X6_rowOrNull (l := l) (D := D) (cy := cy) (base := base) (st := st) (K := K) (L := L) (c := c) (r := r) (o := o) (z := z) th (p2 ^^^ 1) hk_th hc14) (cwV 1 hts gX6_against_X6_rowOrNull rfl rfl rfl (by decide +kernel) ⟨Nat.le_of_ble_eq_true rfl, Nat.le_of_ble_eq_true rfl⟩) hG hC (zC.recv (ci := 6) (fs := _) hK hC (by rw [hk_th]; decide) (by rw [hk_th]; exact zc_6 cy _ _) rfl) rfl hl.1 rfl (lv_room (Nat.le_of_ble_eq_true rfl)) dX6_against_80 ⟨Nat.le_of_ble_eq_true rfl, Nat.le_of_ble_eq_true rfl⟩) hC (fun H locs hC => ?_)
              refine lv_aload_n hx hb dX6_against_83 rfl (lv_at hl 2 rfl) ?_
              refine lv_iload_n hx hb dX6_against_84 rfl (lv_at hl 4 rfl) ?_
              obtain ⟨x17, hc16, hf⟩ := zb_inv hf
              refine z_ci (z_rS (b := 0) (As := [va_rf o15, .ref t1, .int p3]) (rest := []) ⟨hx, hb, hml, hown, hts⟩ (c_X6_isPairedAcross (l := l) (D := D) (cy := cy) (base := base) (st := st) (K := K) (L := L) (c := c) (r := r) (o := o) (z := z) o15 t1 p3 hk_t1 hc16) (va_cwS 3 hts gX6_against_X6_isPairedAcross rfl rfl rfl (by decide +kernel) ⟨Nat.le_of_ble_eq_true rfl, Nat.le_of_ble_eq_true rfl⟩) hG hC rfl hl.1 rfl (lv_room (Nat.le_of_ble_eq_true rfl)) dX6_against_85 ⟨Nat.le_of_ble_eq_true rfl, Nat.le_of_ble_eq_true rfl⟩) hC (fun H locs hC => ?_)
              refine lv_if_eq (tgt := 94) hx hb dX6_against_88 (by decide) (fun h31 => ?_) (fun h31 => ?_)
              · have hf := zif_t hf h31
                refine lv_aload_n hx hb dX6_against_94 rfl (lv_at hl 2 rfl) ?_
                refine zg_4_6 hx hb hts hi4 hown hK hC hk_t1 w1 dX6_against_95 ?_
                refine lv_iconst (v := 3) hx hb dX6_against_98 (by decide) ?_
                refine lv_icmp_ne (tgt := 119) hx hb dX6_against_99 (by decide) (fun h30 => ?_) (fun h30 => ?_)
                · have hf := zif_f hf h30
                  exact J119 _ _ _ a3 hk_a3 hC (lv_sub hl [1, 2, 3, 4, 0] rfl) hf
                · have hf := zif_t hf h30
                  refine lv_aload hx hb dX6_against_102 (lv_at hl 0 rfl) ?_
                  refine lv_iload_n hx hb dX6_against_104 rfl (lv_at hl 4 rfl) ?_
                  refine lv_aload_n hx hb dX6_against_105 rfl (lv_at hl 2 rfl) ?_
                  refine zg_4_2 hx hb hts hi4 hown hK hC hk_t1 w0 dX6_against_106 ?_
                  refine lv_iconst (v := 4) hx hb dX6_against_109 (by decide) ?_
                  obtain ⟨x28, hc27, hf⟩ := zb_inv hf
                  refine z_ci (z_rV (As := [.int p3, .int (zi c 82 t1 0), .int 4]) (rest := []) ⟨hx, hb, hml, hown, hts⟩ (c_X0_isMarked (l := l) (D := D) (cy := cy) (base := base) (st := st) (K := K) (L := L) (c := c) (r := r) (o := o) (z := z) a3 p3 (zi c 82 t1 0) 4 hk_a3 hc27) (cwV 3 hts gX6_against_X0_isMarked rfl rfl rfl (by decide +kernel) ⟨Nat.le_of_ble_eq_true rfl, Nat.le_of_ble_eq_true rfl⟩) hG hC (zC.recv (ci := 0) (fs := _) hK hC (by rw [hk_a3]; decide) (by rw [hk_a3]; exact zc_0 cy _ _) rfl) rfl hl.1 rfl (lv_room (Nat.le_of_ble_eq_true rfl)) dX6_against_110 ⟨Nat.le_of_ble_eq_true rfl, Nat.le_of_ble_eq_true rfl⟩) hC (fun H locs hC => ?_)
                  refine lv_if_ne (tgt := 119) hx hb dX6_against_113 (by decide) (fun h29 => ?_) (fun h29 => ?_)
                  · have hf := zif_f hf h29
                    exact J119 _ _ _ a3 hk_a3 hC (lv_sub hl [1, 2, 3, 4, 0] rfl) hf
                  · have hf := zif_t hf h29
                    refine lv_bipush (v := 7) hx hb dX6_against_116 (by decide) ?_
                    exact z_iret hx hb hr hlocks hC hf dX6_against_118
              · have hf := zif_f hf h31
                refine lv_bipush (v := 6) hx hb dX6_against_91 (by decide) ?_
                exact z_iret hx hb hr hlocks hC hf dX6_against_93
            · have hf := zif_f hf h32
              refine lv_iconst (v := 5) hx hb dX6_against_74 (by decide) ?_
              exact z_iret hx hb hr hlocks hC hf dX6_against_75
          · have hf := zif_f hf h33
            refine lv_iconst (v := 4) hx hb dX6_against_62 (by decide) ?_
            exact z_iret hx hb hr hlocks hC hf dX6_against_63
        · have hf := zif_f hf h34
          refine lv_iconst (v := 3) hx hb dX6_against_53 (by decide) ?_
          exact z_iret hx hb hr hlocks hC hf dX6_against_54
      · have hf := zif_f hf h35
        refine lv_iconst (v := 2) hx hb dX6_against_41 (by decide) ?_
        exact z_iret hx hb hr hlocks hC hf dX6_against_42
    · have hf := zif_t hf h36
      refine lv_iconst (v := 1) hx hb dX6_against_25 (by decide) ?_
      exact z_iret hx hb hr hlocks hC hf dX6_against_26
def f_X0_setHolder_3 (K : Nat → Nat) (z : Nat) (th : Nat) (p1 : Int32) (p2 : Int32) : Nat → zS → Option Nat → Int32 → Option zS
  | 0, _, _, _ => none
  | n + 1, c9, v3, v4 =>
    (if p2 ≤ v4 then some c9 else zb (f_X0_has K z c9 th (p1 + v4)) fun x2 => (if x2 = 0 then zlet (v4 + 1) fun x3 => f_X0_setHolder_3 K z th p1 p2 n c9 v3 x3 else zn K (zr c9 1 th 0) 16 fun a4 => zo K v3 4 (zx (p1 + v4) 200 <| zlet (zur c9 148 a4 (Int32.toNatClampNeg (p1 + v4)) none) fun c6 => zlet (v4 + 1) fun x7 => f_X0_setHolder_3 K z th p1 p2 n c6 none x7) fun a5 => zx (p1 + v4) 200 <| zlet (zur c9 148 a4 (Int32.toNatClampNeg (p1 + v4)) (some a5)) fun c8 => zlet (v4 + 1) fun x9 => f_X0_setHolder_3 K z th p1 p2 n c8 (some a5) x9))
def f_X0_setHolder (K : Nat → Nat) (z : Nat) (c : zS) (th : Nat) (p1 : Int32) (p2 : Int32) (p3 : Option Nat) : Option zS :=
  f_X0_setHolder_3 K z th p1 p2 z c p3 0
set_option maxRecDepth 100000 in
set_option maxHeartbeats 4000000 in
theorem c_X0_setHolder {l : Launch} {D : va_G} {cy : Nat → ClassId} {base : Nat} {st : Nat → Nat} {K : Nat → Nat} {L : List Nat} {c r : zS} {o : Int64} {z : Nat} (th : Nat) (p1 : Int32) (p2 : Int32) (p3 : Option Nat) {cf : zS}  (hk_th : K th = 0) (hf : f_X0_setHolder K z c th p1 p2 p3 = some cf) : Met l yX0_setHolder wsX0_setHolder ({ frames := 1, cells := 0, slots := 0, locals := 21 }) (va_Pc [.ref th, .int p1, .int p2, va_rf p3] (zGW zts0 zns0 D cy base st K L (c, r, o))) (va_Qv (fun (_ : Unit) => True) (fun _ => zB D cy base K L (cf, r, o)) (zA base)) 0 0 (zA base) := by
  refine Met.ofW (cc := cX0_setHolder) (maxL := 5) (ret := none) (by decide) rfl ?_
  intro p e s m args below meth cd s₁ B hml hv
  obtain ⟨rfl, hG⟩ := hv
  have hx := B.exec
  have hb := B.bytes
  have hr := B.returns
  have hts := atoms_spec (ws := wsX0_setHolder) B.pre
  have hown : s.vm.findClass RX0 = some m.cls := findClass_of_methodNamed B.named
  have hlocks := B.notSynchronized
  have hC := hG.enter
  have hK := hG.2.2.2.1
  have hi0 : ∀ w ∈ wsX00, w ∈ wsX0_setHolder := by decide +kernel
  have w0 := hts (.fieldLink RX0 17 "MarketSquare$Row" "holders" "[LMarketSquare$Trader;") (by decide +kernel)
  have hl := lv_entry ([.ref th, .int p1, .int p2, va_rf p3]) (n := 5) (by cases p3 <;> exact Nat.le_of_ble_eq_true rfl)
  rw [lg_entry_eq]
  generalize (lg_sl ([.ref th, .int p1, .int p2, va_rf p3]) ++ List.replicate (5 - (lg_sl ([.ref th, .int p1, .int p2, va_rf p3])).length) Slot.unset).toArray = ls at hl ⊢
  have hl : lv_has ls 5 [(0, .ref th), (1, .int p1), (2, .int p2), (3, va_rf p3)] := (by cases p3 <;> exact hl)
  have L3 : ∀ (n3 : Nat) (c9 : zS) (H : Heap) (locs : List Loc) (ls : Array Slot) (v3 : Option Nat) (v4 : Int32), zC D cy base K L (c9, r, o) s.heap H locs → lv_has ls 5 [(0, .ref th), (1, .int p1), (2, .int p2), (3, va_rf v3), (4, .int v4)] → f_X0_setHolder_3 K z th p1 p2 n3 c9 v3 v4 = some cf → W p l e (headSpec wsX0_setHolder ({ frames := 1, cells := 0, slots := 0, locals := 21 })).room s m ([.ref th, .int p1, .int p2, va_rf p3] : List Value).toArray below meth cd H locs 0 0 (MQ below (va_Qv (fun (_ : Unit) => True) (fun _ => zB D cy base K L (cf, r, o)) (zA base)) ([.ref th, .int p1, .int p2, va_rf p3] : List Value).toArray s 0 0 (zA base)) (F0 m 3 ls []) := by
    intro n3
    induction n3 with
    | zero => intro c9 H locs ls v3 v4 hC hl hf; rw [f_X0_setHolder_3] at hf; cases hf
    | succ n3 ih3 =>
      intro c9 H locs ls v3 v4 hC hl hf
      rw [f_X0_setHolder_3] at hf
      refine lv_iload hx hb dX0_setHolder_3 (lv_at hl 4 rfl) ?_
      refine lv_iload_n hx hb dX0_setHolder_5 rfl (lv_at hl 2 rfl) ?_
      refine lv_icmp_ge (tgt := 36) hx hb dX0_setHolder_6 (by decide) (fun h11 => ?_) (fun h11 => ?_)
      · have hf := zif_t hf h11
        exact z_vretW hx hb hr hlocks hC hf dX0_setHolder_36
      · have hf := zif_f hf h11
        refine lv_aload_n hx hb dX0_setHolder_9 rfl (lv_at hl 0 rfl) ?_
        refine lv_iload_n hx hb dX0_setHolder_10 rfl (lv_at hl 1 rfl) ?_
        refine lv_iload hx hb dX0_setHolder_11 (lv_at hl 4 rfl) ?_
        refine lv_iadd hx hb dX0_setHolder_13 ?_
        obtain ⟨x2, hc1, hf⟩ := zb_inv hf
        refine z_ci (z_rV (As := [.int (p1 + v4)]) (rest := []) ⟨hx, hb, hml, hown, hts⟩ (c_X0_has (l := l) (D := D) (cy := cy) (base := base) (st := st) (K := K) (L := L) (c := c9) (r := r) (o := o) (z := z) th (p1 + v4) hk_th hc1) (cwV 1 hts gX0_setHolder_X0_has rfl rfl rfl (by decide +kernel) ⟨Nat.le_of_ble_eq_true rfl, Nat.le_of_ble_eq_true rfl⟩) hG hC (zC.recv (ci := 0) (fs := _) hK hC (by rw [hk_th]; decide) (by rw [hk_th]; exact zc_0 cy _ _) rfl) rfl hl.1 rfl (lv_room (Nat.le_of_ble_eq_true rfl)) dX0_setHolder_14 ⟨Nat.le_of_ble_eq_true rfl, Nat.le_of_ble_eq_true rfl⟩) hC (fun H locs hC => ?_)
        refine lv_if_eq (tgt := 30) hx hb dX0_setHolder_17 (by decide) (fun h10 => ?_) (fun h10 => ?_)
        · have hf := zif_t hf h10
          obtain ⟨x3, ex3, hf⟩ := zlet_inv hf
          refine lv_iinc (v := x3) (lv' := [(4, .int x3), (0, .ref th), (1, .int p1), (2, .int p2), (3, va_rf v3)]) hx hb dX0_setHolder_30 hl (k := 4) rfl (by rw [ex3]; rfl) (by decide) (by cases v3 <;> rfl) (fun ls hl => ?_)
          refine lv_goto (tgt := 3) hx hb dX0_setHolder_33 (by decide) ?_
          exact ih3 _ _ _ _ v3 x3 hC (lv_sub hl [1, 2, 3, 4, 0] rfl) hf
        · have hf := zif_f hf h10
          refine lv_aload_n hx hb dX0_setHolder_20 rfl (lv_at hl 0 rfl) ?_
          refine zg_0_1 hx hb hts hi0 hown hK hC hk_th w0 dX0_setHolder_21 ?_
          obtain ⟨a4, ea4, hk_a4, hf⟩ := zn_inv hf
          refine z_ref ea4 ?_
          refine lv_iload_n hx hb dX0_setHolder_24 rfl (lv_at hl 1 rfl) ?_
          refine lv_iload hx hb dX0_setHolder_25 (lv_at hl 4 rfl) ?_
          refine lv_iadd hx hb dX0_setHolder_27 ?_
          refine z_aload_n hx hb dX0_setHolder_28 rfl (lv_at hl 3 rfl) ?_
          rcases zo_inv hf with ⟨e0, hf0⟩ | ⟨a5, e0, hk_a5, hf0⟩
          · subst e0; have hf := hf0
            have hl : lv_has ls 5 [(0, .ref th), (1, .int p1), (2, .int p2), (3, .null), (4, .int v4)] := hl
            refine z_stk (st1 := [.null, .int (p1 + v4), .ref a4]) rfl ?_
            obtain ⟨hix, hf⟩ := zx_inv hf
            obtain ⟨c6, ec6, hf⟩ := zlet_inv hf
            refine xpN_16 hx hb hK hC hk_a4 hix ec6 dX0_setHolder_29 (fun H locs hC => ?_)
            obtain ⟨x7, ex7, hf⟩ := zlet_inv hf
            refine lv_iinc (v := x7) (lv' := [(4, .int x7), (0, .ref th), (1, .int p1), (2, .int p2), (3, .null)]) hx hb dX0_setHolder_30 hl (k := 4) rfl (by rw [ex7]; rfl) (by decide) rfl (fun ls hl => ?_)
            refine lv_goto (tgt := 3) hx hb dX0_setHolder_33 (by decide) ?_
            exact ih3 _ _ _ _ none x7 hC (lv_sub hl [1, 2, 3, 4, 0] rfl) hf
          · subst e0; have hf := hf0
            have hl : lv_has ls 5 [(0, .ref th), (1, .int p1), (2, .int p2), (3, .ref a5), (4, .int v4)] := hl
            refine z_stk (st1 := [.ref a5, .int (p1 + v4), .ref a4]) rfl ?_
            obtain ⟨hix, hf⟩ := zx_inv hf
            obtain ⟨c8, ec8, hf⟩ := zlet_inv hf
            refine xp_16 hx hb hK hC hk_a4 hix hk_a5 ec8 dX0_setHolder_29 (fun H locs hC => ?_)
            obtain ⟨x9, ex9, hf⟩ := zlet_inv hf
            refine lv_iinc (v := x9) (lv' := [(4, .int x9), (0, .ref th), (1, .int p1), (2, .int p2), (3, .ref a5)]) hx hb dX0_setHolder_30 hl (k := 4) rfl (by rw [ex9]; rfl) (by decide) rfl (fun ls hl => ?_)
            refine lv_goto (tgt := 3) hx hb dX0_setHolder_33 (by decide) ?_
            exact ih3 _ _ _ _ (some a5) x9 hC (lv_sub hl [1, 2, 3, 4, 0] rfl) hf
  unfold f_X0_setHolder at hf
  refine lv_iconst (v := 0) hx hb dX0_setHolder_0 (by decide) ?_
  refine lv_istore (lv' := [(4, .int 0), (0, .ref th), (1, .int p1), (2, .int p2), (3, va_rf p3)]) hx hb dX0_setHolder_1 hl (by decide) (by cases p3 <;> rfl) (fun ls hl => ?_)
  exact L3 z _ _ _ _ p3 0 hC (lv_sub hl [1, 2, 3, 4, 0] rfl) hf
def f_X1_put (K : Nat → Nat) (z : Nat) (c : zS) (th : Nat) (p1 : Int32) (p2 : Int32) : Option zS :=
  zlet (zui c 20 th 0 1) fun c1 => zlet (zui c1 21 th 0 p1) fun c2 => zlet (zui c2 22 th 0 p2) fun c3 => some c3
set_option maxRecDepth 100000 in
set_option maxHeartbeats 4000000 in
theorem c_X1_put {l : Launch} {D : va_G} {cy : Nat → ClassId} {base : Nat} {st : Nat → Nat} {K : Nat → Nat} {L : List Nat} {c r : zS} {o : Int64} {z : Nat} (th : Nat) (p1 : Int32) (p2 : Int32) {cf : zS}  (hk_th : K th = 1) (hf : f_X1_put K z c th p1 p2 = some cf) : Met l yX1_put wsX1_put ({ frames := 0, cells := 0, slots := 0, locals := 0 }) (va_Pc [.ref th, .int p1, .int p2] (zGW zts0 zns0 D cy base st K L (c, r, o))) (va_Qv (fun (_ : Unit) => True) (fun _ => zB D cy base K L (cf, r, o)) (zA base)) 0 0 (zA base) := by
  refine Met.ofW (cc := cX1_put) (maxL := 3) (ret := none) (by decide) rfl ?_
  intro p e s m args below meth cd s₁ B hml hv
  obtain ⟨rfl, hG⟩ := hv
  have hx := B.exec
  have hb := B.bytes
  have hr := B.returns
  have hts := atoms_spec (ws := wsX1_put) B.pre
  have hown : s.vm.findClass RX1 = some m.cls := findClass_of_methodNamed B.named
  have hlocks := B.notSynchronized
  have hC := hG.enter
  have hK := hG.2.2.2.1
  have hi1 : ∀ w ∈ wsX10, w ∈ wsX1_put := by decide +kernel
  have w0 := hts (.fieldLink RX1 9 "MarketSquare$Spot" "isSet" "Z") (by decide +kernel)
  have w1 := hts (.fieldLink RX1 15 "MarketSquare$Spot" "row" "I") (by decide +kernel)
  have w2 := hts (.fieldLink RX1 19 "MarketSquare$Spot" "place" "I") (by decide +kernel)
  have hl := lv_entry ([.ref th, .int p1, .int p2]) (n := 3) (Nat.le_of_ble_eq_true rfl)
  rw [lg_entry_eq]
  generalize (lg_sl ([.ref th, .int p1, .int p2]) ++ List.replicate (3 - (lg_sl ([.ref th, .int p1, .int p2])).length) Slot.unset).toArray = ls at hl ⊢
  have hl : lv_has ls 3 [(0, .ref th), (1, .int p1), (2, .int p2)] := hl
  unfold f_X1_put at hf
  refine lv_aload_n hx hb dX1_put_0 rfl (lv_at hl 0 rfl) ?_
  refine lv_iconst (v := 1) hx hb dX1_put_1 (by decide) ?_
  obtain ⟨c1, ec1, hf⟩ := zlet_inv hf
  refine zp_1_0 hx hb hts hi1 hown hK hC hk_th w0 (Or.inr rfl) ec1 dX1_put_2 (fun H locs hC => ?_)
  refine lv_aload_n hx hb dX1_put_5 rfl (lv_at hl 0 rfl) ?_
  refine lv_iload_n hx hb dX1_put_6 rfl (lv_at hl 1 rfl) ?_
  obtain ⟨c2, ec2, hf⟩ := zlet_inv hf
  refine zp_1_1 hx hb hts hi1 hown hK hC hk_th w1 ec2 dX1_put_7 (fun H locs hC => ?_)
  refine lv_aload_n hx hb dX1_put_10 rfl (lv_at hl 0 rfl) ?_
  refine lv_iload_n hx hb dX1_put_11 rfl (lv_at hl 2 rfl) ?_
  obtain ⟨c3, ec3, hf⟩ := zlet_inv hf
  refine zp_1_2 hx hb hts hi1 hown hK hC hk_th w2 ec3 dX1_put_12 (fun H locs hC => ?_)
  exact z_vretW hx hb hr hlocks hC hf dX1_put_15
def f_X6_setUp (K : Nat → Nat) (z : Nat) (c : zS) (th : Nat) (t1 : Nat) (p2 : Int32) (p3 : Int32) : Option zS :=
  zb (f_X6_rowOrNull K z c th p2) fun o2 => zo K o2 0 (some c) fun a3 => zb (f_X0_setHolder K z c a3 p3 (zi c 82 t1 0) (some t1)) fun c6 => zn K (zr c6 85 t1 0) 2 fun a7 => zn K (zr c6 40 a7 0) 1 fun a8 => zb (f_X1_put K z c6 a8 p2 p3) fun c11 => zn K (zr c11 81 t1 0) 3 fun a12 => zlet (zui c11 65 a12 0 ((zi c11 65 a12 0) + 1)) fun c13 => zlet (zui c13 132 th 0 ((zi c13 132 th 0) + 1)) fun c14 => (if (zi c14 86 t1 0) = 4 then zb (f_X6_oneIf K z c14 1) fun x19 => zlet (zui c14 133 th 0 ((zi c14 133 th 0) + x19)) fun c20 => some c20 else zb (f_X6_oneIf K z c14 0) fun x16 => zlet (zui c14 133 th 0 ((zi c14 133 th 0) + x16)) fun c17 => some c17)
set_option maxRecDepth 100000 in
set_option maxHeartbeats 4000000 in
theorem c_X6_setUp {l : Launch} {D : va_G} {cy : Nat → ClassId} {base : Nat} {st : Nat → Nat} {K : Nat → Nat} {L : List Nat} {c r : zS} {o : Int64} {z : Nat} (th : Nat) (t1 : Nat) (p2 : Int32) (p3 : Int32) {cf : zS}  (hk_th : K th = 6) (hk_t1 : K t1 = 4) (hf : f_X6_setUp K z c th t1 p2 p3 = some cf) : Met l yX6_setUp wsX6_setUp ({ frames := 2, cells := 0, slots := 0, locals := 45 }) (va_Pc [.ref th, .ref t1, .int p2, .int p3] (zGW zts0 zns0 D cy base st K L (c, r, o))) (va_Qv (fun (_ : Unit) => True) (fun _ => zB D cy base K L (cf, r, o)) (zA base)) 0 0 (zA base) := by
  refine Met.ofW (cc := cX6_setUp) (maxL := 5) (ret := none) (by decide) rfl ?_
  intro p e s m args below meth cd s₁ B hml hv
  obtain ⟨rfl, hG⟩ := hv
  have hx := B.exec
  have hb := B.bytes
  have hr := B.returns
  have hts := atoms_spec (ws := wsX6_setUp) B.pre
  have hown : s.vm.findClass RX6 = some m.cls := findClass_of_methodNamed B.named
  have hlocks := B.notSynchronized
  have hC := hG.enter
  have hK := hG.2.2.2.1
  have hi2 : ∀ w ∈ wsX20, w ∈ wsX6_setUp := by decide +kernel
  have hi3 : ∀ w ∈ wsX30, w ∈ wsX6_setUp := by decide +kernel
  have hi4 : ∀ w ∈ wsX40, w ∈ wsX6_setUp := by decide +kernel
  have hi6 : ∀ w ∈ wsX60, w ∈ wsX6_setUp := by decide +kernel
  have w0 := hts (.fieldLink RX6 260 "MarketSquare$Trader" "front" "I") (by decide +kernel)
  have w1 := hts (.fieldLink RX6 168 "MarketSquare$Trader" "today" "LMarketSquare$Today;") (by decide +kernel)
  have w2 := hts (.fieldLink RX6 224 "MarketSquare$Today" "stall" "LMarketSquare$Spot;") (by decide +kernel)
  have w3 := hts (.fieldLink RX6 255 "MarketSquare$Trader" "trade" "LMarketSquare$Trade;") (by decide +kernel)
  have w4 := hts (.fieldLink RX6 371 "MarketSquare$Trade" "stalls" "I") (by decide +kernel)
  have w5 := hts (.fieldLink RX6 314 "MarketSquare" "stalls" "I") (by decide +kernel)
  have w6 := hts (.fieldLink RX6 387 "MarketSquare" "charities" "I") (by decide +kernel)
  have w7 := hts (.fieldLink RX6 115 "MarketSquare$Trader" "kind" "I") (by decide +kernel)
  have hl := lv_entry ([.ref th, .ref t1, .int p2, .int p3]) (n := 5) (Nat.le_of_ble_eq_true rfl)
  rw [lg_entry_eq]
  generalize (lg_sl ([.ref th, .ref t1, .int p2, .int p3]) ++ List.replicate (5 - (lg_sl ([.ref th, .ref t1, .int p2, .int p3])).length) Slot.unset).toArray = ls at hl ⊢
  have hl : lv_has ls 5 [(0, .ref th), (1, .ref t1), (2, .int p2), (3, .int p3)] := hl
  unfold f_X6_setUp at hf
  refine lv_aload_n hx hb dX6_setUp_0 rfl (lv_at hl 0 rfl) ?_
  refine lv_iload_n hx hb dX6_setUp_1 rfl (lv_at hl 2 rfl) ?_
  obtain ⟨o2, hc1, hf⟩ := zb_inv hf
  refine z_cq (z_rV (As := [.int p2]) (rest := []) ⟨hx, hb, hml, hown, hts⟩ (c_X6_rowOrNull (l := l) (D := D) (cy := cy) (base := base) (st := st) (K := K) (L := L) (c := c) (r := r) (o := o) (z := z) th p2 hk_th hc1) (cwV 1 hts gX6_setUp_X6_rowOrNull rfl rfl rfl (by decide +kernel) ⟨Nat.le_of_ble_eq_true rfl, Nat.le_of_ble_eq_true rfl⟩) hG hC (zC.recv (ci := 6) (fs := _) hK hC (by rw [hk_th]; decide) (by rw [hk_th]; exact zc_6 cy _ _) rfl) rfl hl.1 rfl (lv_room (Nat.le_of_ble_eq_true rfl)) dX6_setUp_2 ⟨Nat.le_of_ble_eq_true rfl, Nat.le_of_ble_eq_true rfl⟩) hC (fun H locs hC => ?_)
  refine z_astore (lv' := [(4, va_rf o2), (0, .ref th), (1, .ref t1), (2, .int p2), (3, .int p3)]) hx hb dX6_setUp_5 hl (by decide) rfl (fun ls hl => ?_)
  refine z_aload hx hb dX6_setUp_7 (lv_at hl 0 rfl) ?_
  rcases zo_inv hf with ⟨e0, hf0⟩ | ⟨a3, e0, hk_a3, hf0⟩
  · subst e0; have hf := hf0
    have hl : lv_has ls 5 [(4, .null), (0, .ref th), (1, .ref t1), (2, .int p2), (3, .int p3)] := hl
    refine lv_ifnonnullN hx hb dX6_setUp_9 ?_
    exact z_vretW hx hb hr hlocks hC hf dX6_setUp_12
  · subst e0; have hf := hf0
    have hl : lv_has ls 5 [(4, .ref a3), (0, .ref th), (1, .ref t1), (2, .int p2), (3, .int p3)] := hl
    refine lv_ifnonnull (tgt := 13) hx hb dX6_setUp_9 (by decide) ?_
    refine lv_aload hx hb dX6_setUp_13 (lv_at hl 0 rfl) ?_
    refine lv_iload_n hx hb dX6_setUp_15 rfl (lv_at hl 4 rfl) ?_
    refine lv_aload_n hx hb dX6_setUp_16 rfl (lv_at hl 2 rfl) ?_
    refine zg_4_2 hx hb hts hi4 hown hK hC hk_t1 w0 dX6_setUp_17 ?_
    refine lv_aload_n hx hb dX6_setUp_20 rfl (lv_at hl 2 rfl) ?_
    obtain ⟨c6, hc4, hf⟩ := zb_inv hf
    refine z_cv (z_rV (As := [.int p3, .int (zi c 82 t1 0), va_rf (some t1)]) (rest := []) ⟨hx, hb, hml, hown, hts⟩ (c_X0_setHolder (l := l) (D := D) (cy := cy) (base := base) (st := st) (K := K) (L := L) (c := c) (r := r) (o := o) (z := z) a3 p3 (zi c 82 t1 0) (some t1) hk_a3 hc4) (cwV 3 hts gX6_setUp_X0_setHolder rfl rfl rfl (by decide +kernel) ⟨Nat.le_of_ble_eq_true rfl, Nat.le_of_ble_eq_true rfl⟩) hG hC (zC.recv (ci := 0) (fs := _) hK hC (by rw [hk_a3]; decide) (by rw [hk_a3]; exact zc_0 cy _ _) rfl) rfl hl.1 rfl (lv_room (Nat.le_of_ble_eq_true rfl)) dX6_setUp_21 ⟨Nat.le_of_ble_eq_true rfl, Nat.le_of_ble_eq_true rfl⟩) hC (fun H locs hC => ?_)
    refine lv_aload_n hx hb dX6_setUp_24 rfl (lv_at hl 2 rfl) ?_
    refine zg_4_5 hx hb hts hi4 hown hK hC hk_t1 w1 dX6_setUp_25 ?_
    obtain ⟨a7, ea7, hk_a7, hf⟩ := zn_inv hf
    refine z_ref ea7 ?_
    refine zg_2_0 hx hb hts hi2 hown hK hC hk_a7 w2 dX6_setUp_28 ?_
    obtain ⟨a8, ea8, hk_a8, hf⟩ := zn_inv hf
    refine z_ref ea8 ?_
    refine lv_iload_n hx hb dX6_setUp_31 rfl (lv_at hl 3 rfl) ?_
    refine lv_iload_n hx hb dX6_setUp_32 rfl (lv_at hl 4 rfl) ?_
    obtain ⟨c11, hc9, hf⟩ := zb_inv hf
    refine z_cv (z_rV (As := [.int p2, .int p3]) (rest := []) ⟨hx, hb, hml, hown, hts⟩ (c_X1_put (l := l) (D := D) (cy := cy) (base := base) (st := st) (K := K) (L := L) (c := c6) (r := r) (o := o) (z := z) a8 p2 p3 hk_a8 hc9) (cwV 2 hts gX6_setUp_X1_put rfl rfl rfl (by decide +kernel) ⟨Nat.le_of_ble_eq_true rfl, Nat.le_of_ble_eq_true rfl⟩) hG hC (zC.recv (ci := 1) (fs := _) hK hC (by rw [hk_a8]; decide) (by rw [hk_a8]; exact zc_1 cy _ _) rfl) rfl hl.1 rfl (lv_room (Nat.le_of_ble_eq_true rfl)) dX6_setUp_33 ⟨Nat.le_of_ble_eq_true rfl, Nat.le_of_ble_eq_true rfl⟩) hC (fun H locs hC => ?_)
    refine lv_aload_n hx hb dX6_setUp_36 rfl (lv_at hl 2 rfl) ?_
    refine zg_4_1 hx hb hts hi4 hown hK hC hk_t1 w3 dX6_setUp_37 ?_
    obtain ⟨a12, ea12, hk_a12, hf⟩ := zn_inv hf
    refine z_ref ea12 ?_
    refine lv_dup hx hb dX6_setUp_40 rfl ?_
    refine zg_3_5 hx hb hts hi3 hown hK hC hk_a12 w4 dX6_setUp_41 ?_
    refine lv_iconst (v := 1) hx hb dX6_setUp_44 (by decide) ?_
    refine lv_iadd hx hb dX6_setUp_45 ?_
    obtain ⟨c13, ec13, hf⟩ := zlet_inv hf
    refine zp_3_5 hx hb hts hi3 hown hK hC hk_a12 w4 ec13 dX6_setUp_46 (fun H locs hC => ?_)
    refine lv_aload_n hx hb dX6_setUp_49 rfl (lv_at hl 1 rfl) ?_
    refine lv_dup hx hb dX6_setUp_50 rfl ?_
    refine zg_6_12 hx hb hts hi6 hown hK hC hk_th w5 dX6_setUp_51 ?_
    refine lv_iconst (v := 1) hx hb dX6_setUp_54 (by decide) ?_
    refine lv_iadd hx hb dX6_setUp_55 ?_
    obtain ⟨c14, ec14, hf⟩ := zlet_inv hf
    refine zp_6_12 hx hb hts hi6 hown hK hC hk_th w5 ec14 dX6_setUp_56 (fun H locs hC => ?_)
    refine lv_aload_n hx hb dX6_setUp_59 rfl (lv_at hl 1 rfl) ?_
    refine lv_dup hx hb dX6_setUp_60 rfl ?_
    refine zg_6_13 hx hb hts hi6 hown hK hC hk_th w6 dX6_setUp_61 ?_
    refine lv_aload_n hx hb dX6_setUp_64 rfl (lv_at hl 2 rfl) ?_
    refine zg_4_6 hx hb hts hi4 hown hK hC hk_t1 w7 dX6_setUp_65 ?_
    refine lv_iconst (v := 4) hx hb dX6_setUp_68 (by decide) ?_
    refine lv_icmp_ne (tgt := 76) hx hb dX6_setUp_69 (by decide) (fun h21 => ?_) (fun h21 => ?_)
    · have hf := zif_f hf h21
      refine lv_iconst (v := 0) hx hb dX6_setUp_76 (by decide) ?_
      obtain ⟨x16, hc15, hf⟩ := zb_inv hf
      refine z_ci (z_rS (b := 0) (As := [.int 0]) (rest := [.int (zi c14 133 th 0), .ref th]) ⟨hx, hb, hml, hown, hts⟩ (c_X6_oneIf (l := l) (D := D) (cy := cy) (base := base) (st := st) (K := K) (L := L) (c := c14) (r := r) (o := o) (z := z) 0  hc15) (va_cwS 1 hts gX6_setUp_X6_oneIf rfl rfl rfl (by decide +kernel) ⟨Nat.le_of_ble_eq_true rfl, Nat.le_of_ble_eq_true rfl⟩) hG hC rfl hl.1 rfl (lv_room (Nat.le_of_ble_eq_true rfl)) dX6_setUp_77 ⟨Nat.le_of_ble_eq_true rfl, Nat.le_of_ble_eq_true rfl⟩) hC (fun H locs hC => ?_)
      refine lv_iadd hx hb dX6_setUp_80 ?_
      obtain ⟨c17, ec17, hf⟩ := zlet_inv hf
      refine zp_6_13 hx hb hts hi6 hown hK hC hk_th w6 ec17 dX6_setUp_81 (fun H locs hC => ?_)
      exact z_vretW hx hb hr hlocks hC hf dX6_setUp_84
    · have hf := zif_t hf h21
      refine lv_iconst (v := 1) hx hb dX6_setUp_72 (by decide) ?_
      refine lv_goto (tgt := 77) hx hb dX6_setUp_73 (by decide) ?_
      obtain ⟨x19, hc18, hf⟩ := zb_inv hf
      refine z_ci (z_rS (b := 0) (As := [.int 1]) (rest := [.int (zi c14 133 th 0), .ref th]) ⟨hx, hb, hml, hown, hts⟩ (c_X6_oneIf (l := l) (D := D) (cy := cy) (base := base) (st := st) (K := K) (L := L) (c := c14) (r := r) (o := o) (z := z) 1  hc18) (va_cwS 1 hts gX6_setUp_X6_oneIf rfl rfl rfl (by decide +kernel) ⟨Nat.le_of_ble_eq_true rfl, Nat.le_of_ble_eq_true rfl⟩) hG hC rfl hl.1 rfl (lv_room (Nat.le_of_ble_eq_true rfl)) dX6_setUp_77 ⟨Nat.le_of_ble_eq_true rfl, Nat.le_of_ble_eq_true rfl⟩) hC (fun H locs hC => ?_)
      refine lv_iadd hx hb dX6_setUp_80 ?_
      obtain ⟨c20, ec20, hf⟩ := zlet_inv hf
      refine zp_6_13 hx hb hts hi6 hown hK hC hk_th w6 ec20 dX6_setUp_81 (fun H locs hC => ?_)
      exact z_vretW hx hb hr hlocks hC hf dX6_setUp_84
def f_X6_open (K : Nat → Nat) (z : Nat) (c : zS) (th : Nat) (t1 : Nat) (p2 : Int32) (p3 : Int32) : Option zS :=
  zn K (zr c 85 t1 0) 2 fun a1 => zlet (zui c 41 a1 0 (zi c 131 th 0)) fun c2 => zb (f_X6_setUp K z c2 th t1 p2 p3) fun c5 => some c5
set_option maxRecDepth 100000 in
set_option maxHeartbeats 4000000 in
theorem c_X6_open {l : Launch} {D : va_G} {cy : Nat → ClassId} {base : Nat} {st : Nat → Nat} {K : Nat → Nat} {L : List Nat} {c r : zS} {o : Int64} {z : Nat} (th : Nat) (t1 : Nat) (p2 : Int32) (p3 : Int32) {cf : zS}  (hk_th : K th = 6) (hk_t1 : K t1 = 4) (hf : f_X6_open K z c th t1 p2 p3 = some cf) : Met l yX6_open wsX6_open ({ frames := 3, cells := 0, slots := 0, locals := 69 }) (va_Pc [.ref th, .ref t1, .int p2, .int p3] (zGW zts0 zns0 D cy base st K L (c, r, o))) (va_Qv (fun (_ : Unit) => True) (fun _ => zB D cy base K L (cf, r, o)) (zA base)) 0 0 (zA base) := by
  refine Met.ofW (cc := cX6_open) (maxL := 4) (ret := none) (by decide) rfl ?_
  intro p e s m args below meth cd s₁ B hml hv
  obtain ⟨rfl, hG⟩ := hv
  have hx := B.exec
  have hb := B.bytes
  have hr := B.returns
  have hts := atoms_spec (ws := wsX6_open) B.pre
  have hown : s.vm.findClass RX6 = some m.cls := findClass_of_methodNamed B.named
  have hlocks := B.notSynchronized
  have hC := hG.enter
  have hK := hG.2.2.2.1
  have hi2 : ∀ w ∈ wsX20, w ∈ wsX6_open := by decide +kernel
  have hi4 : ∀ w ∈ wsX40, w ∈ wsX6_open := by decide +kernel
  have hi6 : ∀ w ∈ wsX60, w ∈ wsX6_open := by decide +kernel
  have w0 := hts (.fieldLink RX6 168 "MarketSquare$Trader" "today" "LMarketSquare$Today;") (by decide +kernel)
  have w1 := hts (.fieldLink RX6 159 "MarketSquare" "hour" "I") (by decide +kernel)
  have w2 := hts (.fieldLink RX6 420 "MarketSquare$Today" "cameAt" "I") (by decide +kernel)
  have hl := lv_entry ([.ref th, .ref t1, .int p2, .int p3]) (n := 4) (Nat.le_of_ble_eq_true rfl)
  rw [lg_entry_eq]
  generalize (lg_sl ([.ref th, .ref t1, .int p2, .int p3]) ++ List.replicate (4 - (lg_sl ([.ref th, .ref t1, .int p2, .int p3])).length) Slot.unset).toArray = ls at hl ⊢
  have hl : lv_has ls 4 [(0, .ref th), (1, .ref t1), (2, .int p2), (3, .int p3)] := hl
  unfold f_X6_open at hf
  refine lv_aload_n hx hb dX6_open_0 rfl (lv_at hl 1 rfl) ?_
  refine zg_4_5 hx hb hts hi4 hown hK hC hk_t1 w0 dX6_open_1 ?_
  obtain ⟨a1, ea1, hk_a1, hf⟩ := zn_inv hf
  refine z_ref ea1 ?_
  refine lv_aload_n hx hb dX6_open_4 rfl (lv_at hl 0 rfl) ?_
  refine zg_6_11 hx hb hts hi6 hown hK hC hk_th w1 dX6_open_5 ?_
  obtain ⟨c2, ec2, hf⟩ := zlet_inv hf
  refine zp_2_1 hx hb hts hi2 hown hK hC hk_a1 w2 ec2 dX6_open_8 (fun H locs hC => ?_)
  refine lv_aload_n hx hb dX6_open_11 rfl (lv_at hl 0 rfl) ?_
  refine lv_aload_n hx hb dX6_open_12 rfl (lv_at hl 1 rfl) ?_
  refine lv_iload_n hx hb dX6_open_13 rfl (lv_at hl 2 rfl) ?_
  refine lv_iload_n hx hb dX6_open_14 rfl (lv_at hl 3 rfl) ?_
  obtain ⟨c5, hc3, hf⟩ := zb_inv hf
  refine z_cv (z_rV (As := [.ref t1, .int p2, .int p3]) (rest := []) ⟨hx, hb, hml, hown, hts⟩ (c_X6_setUp (l := l) (D := D) (cy := cy) (base := base) (st := st) (K := K) (L := L) (c := c2) (r := r) (o := o) (z := z) th t1 p2 p3 hk_th hk_t1 hc3) (cwV 3 hts gX6_open_X6_setUp rfl rfl rfl (by decide +kernel) ⟨Nat.le_of_ble_eq_true rfl, Nat.le_of_ble_eq_true rfl⟩) hG hC (zC.recv (ci := 6) (fs := _) hK hC (by rw [hk_th]; decide) (by rw [hk_th]; exact zc_6 cy _ _) rfl) rfl hl.1 rfl (lv_room (Nat.le_of_ble_eq_true rfl)) dX6_open_15 ⟨Nat.le_of_ble_eq_true rfl, Nat.le_of_ble_eq_true rfl⟩) hC (fun H locs hC => ?_)
  exact z_vretW hx hb hr hlocks hC hf dX6_open_18
def f_X6_giveOutPitches_4 (K : Nat → Nat) (z : Nat) (th : Nat) : Nat → zS → Int32 → Int32 → Option (Int32 × zS)
  | 0, _, _, _ => none
  | n + 1, c9, v1, v2 =>
    (if (zi c9 126 th 0) ≤ v2 then some (v1, c9) else zn K (zr c9 123 th 0) 14 fun a1 => zx v2 200 <| zn K (zr c9 146 a1 (Int32.toNatClampNeg v2)) 4 fun a2 => zn K (zr c9 83 a2 0) 1 fun a3 => (if (zi c9 20 a3 0) = 0 then zlet (v2 + 1) fun x4 => f_X6_giveOutPitches_4 K z th n c9 v1 x4 else zn K (zr c9 85 a2 0) 2 fun a5 => (if (zi c9 42 a5 0) = 0 then zlet (v2 + 1) fun x16 => f_X6_giveOutPitches_4 K z th n c9 v1 x16 else zb (f_X6_against K z c9 th a2 (zi c9 21 a3 0) (zi c9 22 a3 0)) fun x7 => (if x7 = 0 then zb (f_X6_open K z c9 th a2 (zi c9 21 a3 0) (zi c9 22 a3 0)) fun c12 => zlet (v1 + 1) fun x13 => zlet (v2 + 1) fun x14 => f_X6_giveOutPitches_4 K z th n c12 x13 x14 else zlet (zui c9 44 a5 0 1) fun c8 => zlet (v2 + 1) fun x9 => f_X6_giveOutPitches_4 K z th n c8 v1 x9))))
def f_X6_giveOutPitches (K : Nat → Nat) (z : Nat) (c : zS) (th : Nat) : Option (Int32 × zS) :=
  f_X6_giveOutPitches_4 K z th z c 0 0
set_option maxRecDepth 100000 in
set_option maxHeartbeats 4000000 in
theorem c_X6_giveOutPitches {l : Launch} {D : va_G} {cy : Nat → ClassId} {base : Nat} {st : Nat → Nat} {K : Nat → Nat} {L : List Nat} {c r : zS} {o : Int64} {z : Nat} (th : Nat) {rv : Int32} {cf : zS}  (hk_th : K th = 6) (hf : f_X6_giveOutPitches K z c th = some (rv, cf)) : Met l yX6_giveOutPitches wsX6_giveOutPitches ({ frames := 4, cells := 0, slots := 0, locals := 92 }) (va_Pc [.ref th] (zGW zts0 zns0 D cy base st K L (c, r, o))) (va_Qi (fun (rr : Int32) (_ : Unit) => rr = rv) (fun _ => zB D cy base K L (cf, r, o)) (zA base)) 0 0 (zA base) := by
  refine Met.ofW (cc := cX6_giveOutPitches) (maxL := 4) (ret := (some .int)) (by decide) rfl ?_
  intro p e s m args below meth cd s₁ B hml hv
  obtain ⟨rfl, hG⟩ := hv
  have hx := B.exec
  have hb := B.bytes
  have hr := B.returns
  have hts := atoms_spec (ws := wsX6_giveOutPitches) B.pre
  have hown : s.vm.findClass RX6 = some m.cls := findClass_of_methodNamed B.named
  have hlocks := B.notSynchronized
  have hC := hG.enter
  have hK := hG.2.2.2.1
  have hi1 : ∀ w ∈ wsX10, w ∈ wsX6_giveOutPitches := by decide +kernel
  have hi2 : ∀ w ∈ wsX20, w ∈ wsX6_giveOutPitches := by decide +kernel
  have hi4 : ∀ w ∈ wsX40, w ∈ wsX6_giveOutPitches := by decide +kernel
  have hi6 : ∀ w ∈ wsX60, w ∈ wsX6_giveOutPitches := by decide +kernel
  have w0 := hts (.fieldLink RX6 100 "MarketSquare" "traderCount" "I") (by decide +kernel)
  have w1 := hts (.fieldLink RX6 27 "MarketSquare" "ranked" "[LMarketSquare$Trader;") (by decide +kernel)
  have w2 := hts (.fieldLink RX6 120 "MarketSquare$Trader" "pitch" "LMarketSquare$Spot;") (by decide +kernel)
  have w3 := hts (.fieldLink RX6 227 "MarketSquare$Spot" "isSet" "Z") (by decide +kernel)
  have w4 := hts (.fieldLink RX6 168 "MarketSquare$Trader" "today" "LMarketSquare$Today;") (by decide +kernel)
  have w5 := hts (.fieldLink RX6 172 "MarketSquare$Today" "there" "Z") (by decide +kernel)
  have w6 := hts (.fieldLink RX6 414 "MarketSquare$Spot" "row" "I") (by decide +kernel)
  have w7 := hts (.fieldLink RX6 417 "MarketSquare$Spot" "place" "I") (by decide +kernel)
  have w8 := hts (.fieldLink RX6 273 "MarketSquare$Today" "slighted" "Z") (by decide +kernel)
  have hl := lv_entry ([.ref th]) (n := 4) (Nat.le_of_ble_eq_true rfl)
  rw [lg_entry_eq]
  generalize (lg_sl ([.ref th]) ++ List.replicate (4 - (lg_sl ([.ref th])).length) Slot.unset).toArray = ls at hl ⊢
  have hl : lv_has ls 4 [(0, .ref th)] := hl
  have L4 : ∀ (n4 : Nat) (c9 : zS) (H : Heap) (locs : List Loc) (ls : Array Slot) (v1 : Int32) (v2 : Int32), zC D cy base K L (c9, r, o) s.heap H locs → lv_has ls 4 [(0, .ref th), (1, .int v1), (2, .int v2)] → f_X6_giveOutPitches_4 K z th n4 c9 v1 v2 = some (rv, cf) → W p l e (headSpec wsX6_giveOutPitches ({ frames := 4, cells := 0, slots := 0, locals := 92 })).room s m ([.ref th] : List Value).toArray below meth cd H locs 0 0 (MQ below (va_Qi (fun (rr : Int32) (_ : Unit) => rr = rv) (fun _ => zB D cy base K L (cf, r, o)) (zA base)) ([.ref th] : List Value).toArray s 0 0 (zA base)) (F0 m 4 ls []) := by
    intro n4
    induction n4 with
    | zero => intro c9 H locs ls v1 v2 hC hl hf; rw [f_X6_giveOutPitches_4] at hf; cases hf
    | succ n4 ih4 =>
      intro c9 H locs ls v1 v2 hC hl hf
      rw [f_X6_giveOutPitches_4] at hf
      refine lv_iload_n hx hb dX6_giveOutPitches_4 rfl (lv_at hl 2 rfl) ?_
      refine lv_aload_n hx hb dX6_giveOutPitches_5 rfl (lv_at hl 0 rfl) ?_
      refine zg_6_6 hx hb hts hi6 hown hK hC hk_th w0 dX6_giveOutPitches_6 ?_
      refine lv_icmp_ge (tgt := 103) hx hb dX6_giveOutPitches_9 (by decide) (fun h19 => ?_) (fun h19 => ?_)
      · have hf := zif_t hf h19
        refine lv_iload_n hx hb dX6_giveOutPitches_103 rfl (lv_at hl 1 rfl) ?_
        exact z_iretW hx hb hr hlocks hC hf dX6_giveOutPitches_104
      · have hf := zif_f hf h19
        refine lv_aload_n hx hb dX6_giveOutPitches_12 rfl (lv_at hl 0 rfl) ?_
        refine zg_6_3 hx hb hts hi6 hown hK hC hk_th w1 dX6_giveOutPitches_13 ?_
        obtain ⟨a1, ea1, hk_a1, hf⟩ := zn_inv hf
        refine z_ref ea1 ?_
        refine lv_iload_n hx hb dX6_giveOutPitches_16 rfl (lv_at hl 2 rfl) ?_
        obtain ⟨hix, hf⟩ := zx_inv hf
        refine xg_14 hx hb hK hC hk_a1 hix dX6_giveOutPitches_17 ?_
        obtain ⟨a2, ea2, hk_a2, hf⟩ := zn_inv hf
        refine z_ref ea2 ?_
        refine lv_astore_n (lv' := [(3, .ref a2), (0, .ref th), (1, .int v1), (2, .int v2)]) hx hb dX6_giveOutPitches_18 rfl hl (by decide) rfl (fun ls hl => ?_)
        refine lv_aload_n hx hb dX6_giveOutPitches_19 rfl (lv_at hl 0 rfl) ?_
        refine zg_4_3 hx hb hts hi4 hown hK hC hk_a2 w2 dX6_giveOutPitches_20 ?_
        obtain ⟨a3, ea3, hk_a3, hf⟩ := zn_inv hf
        refine z_ref ea3 ?_
        refine zg_1_0 hx hb hts hi1 hown hK hC hk_a3 w3 dX6_giveOutPitches_23 ?_
        refine lv_if_eq (tgt := 97) hx hb dX6_giveOutPitches_26 (by decide) (fun h18 => ?_) (fun h18 => ?_)
        · have hf := zif_t hf h18
          obtain ⟨x4, ex4, hf⟩ := zlet_inv hf
          refine lv_iinc (v := x4) (lv' := [(2, .int x4), (3, .ref a2), (0, .ref th), (1, .int v1)]) hx hb dX6_giveOutPitches_97 hl (k := 3) rfl (by rw [ex4]; rfl) (by decide) rfl (fun ls hl => ?_)
          refine lv_goto (tgt := 4) hx hb dX6_giveOutPitches_100 (by decide) ?_
          exact ih4 _ _ _ _ v1 x4 hC (lv_sub hl [2, 3, 0] rfl) hf
        · have hf := zif_f hf h18
          refine lv_aload_n hx hb dX6_giveOutPitches_29 rfl (lv_at hl 0 rfl) ?_
          refine zg_4_5 hx hb hts hi4 hown hK hC hk_a2 w4 dX6_giveOutPitches_30 ?_
          obtain ⟨a5, ea5, hk_a5, hf⟩ := zn_inv hf
          refine z_ref ea5 ?_
          refine zg_2_2 hx hb hts hi2 hown hK hC hk_a5 w5 dX6_giveOutPitches_33 ?_
          refine lv_if_ne (tgt := 42) hx hb dX6_giveOutPitches_36 (by decide) (fun h17 => ?_) (fun h17 => ?_)
          · have hf := zif_f hf h17
            refine lv_aload_n hx hb dX6_giveOutPitches_42 rfl (lv_at hl 1 rfl) ?_
            refine lv_aload_n hx hb dX6_giveOutPitches_43 rfl (lv_at hl 0 rfl) ?_
            refine lv_aload_n hx hb dX6_giveOutPitches_44 rfl (lv_at hl 0 rfl) ?_
            refine zg_4_3 hx hb hts hi4 hown hK hC hk_a2 w2 dX6_giveOutPitches_45 ?_
            refine z_ref ea3 ?_
            refine zg_1_1 hx hb hts hi1 hown hK hC hk_a3 w6 dX6_giveOutPitches_48 ?_
            refine lv_aload_n hx hb dX6_giveOutPitches_51 rfl (lv_at hl 0 rfl) ?_
            refine zg_4_3 hx hb hts hi4 hown hK hC hk_a2 w2 dX6_giveOutPitches_52 ?_
            refine z_ref ea3 ?_
            refine zg_1_2 hx hb hts hi1 hown hK hC hk_a3 w7 dX6_giveOutPitches_55 ?_
            obtain ⟨x7, hc6, hf⟩ := zb_inv hf
            refine z_ci (z_rV (As := [.ref a2, .int (zi c9 21 a3 0), .int (zi c9 22 a3 0)]) (rest := []) ⟨hx, hb, hml, hown, hts⟩ (c_X6_against (l := l) (D := D) (cy := cy) (base := base) (st := st) (K := K) (L := L) (c := c9) (r := r) (o := o) (z := z) th a2 (zi c9 21 a3 0) (zi c9 22 a3 0) hk_th hk_a2 hc6) (cwV 3 hts gX6_giveOutPitches_X6_against rfl rfl rfl (by decide +kernel) ⟨Nat.le_of_ble_eq_true rfl, Nat.le_of_ble_eq_true rfl⟩) hG hC (zC.recv (ci := 6) (fs := _) hK hC (by rw [hk_th]; decide) (by rw [hk_th]; exact zc_6 cy _ _) rfl) rfl hl.1 rfl (lv_room (Nat.le_of_ble_eq_true rfl)) dX6_giveOutPitches_58 ⟨Nat.le_of_ble_eq_true rfl, Nat.le_of_ble_eq_true rfl⟩) hC (fun H locs hC => ?_)
            refine lv_if_ne (tgt := 89) hx hb dX6_giveOutPitches_61 (by decide) (fun h15 => ?_) (fun h15 => ?_)
            · have hf := zif_f hf h15
              refine lv_aload_n hx hb dX6_giveOutPitches_89 rfl (lv_at hl 0 rfl) ?_
              refine zg_4_5 hx hb hts hi4 hown hK hC hk_a2 w4 dX6_giveOutPitches_90 ?_
              refine z_ref ea5 ?_
              refine lv_iconst (v := 1) hx hb dX6_giveOutPitches_93 (by decide) ?_
              obtain ⟨c8, ec8, hf⟩ := zlet_inv hf
              refine zp_2_4 hx hb hts hi2 hown hK hC hk_a5 w8 (Or.inr rfl) ec8 dX6_giveOutPitches_94 (fun H locs hC => ?_)
              obtain ⟨x9, ex9, hf⟩ := zlet_inv hf
              refine lv_iinc (v := x9) (lv' := [(2, .int x9), (3, .ref a2), (0, .ref th), (1, .int v1)]) hx hb dX6_giveOutPitches_97 hl (k := 3) rfl (by rw [ex9]; rfl) (by decide) rfl (fun ls hl => ?_)
              refine lv_goto (tgt := 4) hx hb dX6_giveOutPitches_100 (by decide) ?_
              exact ih4 _ _ _ _ v1 x9 hC (lv_sub hl [2, 3, 0] rfl) hf
            · have hf := zif_t hf h15
              refine lv_aload_n hx hb dX6_giveOutPitches_64 rfl (lv_at hl 1 rfl) ?_
              refine lv_aload_n hx hb dX6_giveOutPitches_65 rfl (lv_at hl 0 rfl) ?_
              refine lv_aload_n hx hb dX6_giveOutPitches_66 rfl (lv_at hl 0 rfl) ?_
              refine zg_4_3 hx hb hts hi4 hown hK hC hk_a2 w2 dX6_giveOutPitches_67 ?_
              refine z_ref ea3 ?_
              refine zg_1_1 hx hb hts hi1 hown hK hC hk_a3 w6 dX6_giveOutPitches_70 ?_
              refine lv_aload_n hx hb dX6_giveOutPitches_73 rfl (lv_at hl 0 rfl) ?_
              refine zg_4_3 hx hb hts hi4 hown hK hC hk_a2 w2 dX6_giveOutPitches_74 ?_
              refine z_ref ea3 ?_
              refine zg_1_2 hx hb hts hi1 hown hK hC hk_a3 w7 dX6_giveOutPitches_77 ?_
              obtain ⟨c12, hc10, hf⟩ := zb_inv hf
              refine z_cv (z_rV (As := [.ref a2, .int (zi c9 21 a3 0), .int (zi c9 22 a3 0)]) (rest := []) ⟨hx, hb, hml, hown, hts⟩ (c_X6_open (l := l) (D := D) (cy := cy) (base := base) (st := st) (K := K) (L := L) (c := c9) (r := r) (o := o) (z := z) th a2 (zi c9 21 a3 0) (zi c9 22 a3 0) hk_th hk_a2 hc10) (cwV 3 hts gX6_giveOutPitches_X6_open rfl rfl rfl (by decide +kernel) ⟨Nat.le_of_ble_eq_true rfl, Nat.le_of_ble_eq_true rfl⟩) hG hC (zC.recv (ci := 6) (fs := _) hK hC (by rw [hk_th]; decide) (by rw [hk_th]; exact zc_6 cy _ _) rfl) rfl hl.1 rfl (lv_room (Nat.le_of_ble_eq_true rfl)) dX6_giveOutPitches_80 ⟨Nat.le_of_ble_eq_true rfl, Nat.le_of_ble_eq_true rfl⟩) hC (fun H locs hC => ?_)
              obtain ⟨x13, ex13, hf⟩ := zlet_inv hf
              refine lv_iinc (v := x13) (lv' := [(1, .int x13), (3, .ref a2), (0, .ref th), (2, .int v2)]) hx hb dX6_giveOutPitches_83 hl (k := 2) rfl (by rw [ex13]; rfl) (by decide) rfl (fun ls hl => ?_)
              refine lv_goto (tgt := 97) hx hb dX6_giveOutPitches_86 (by decide) ?_
              obtain ⟨x14, ex14, hf⟩ := zlet_inv hf
              refine lv_iinc (v := x14) (lv' := [(2, .int x14), (1, .int x13), (3, .ref a2), (0, .ref th)]) hx hb dX6_giveOutPitches_97 hl (k := 3) rfl (by rw [ex14]; rfl) (by decide) rfl (fun ls hl => ?_)
              refine lv_goto (tgt := 4) hx hb dX6_giveOutPitches_100 (by decide) ?_
              exact ih4 _ _ _ _ x13 x14 hC (lv_sub hl [3, 1, 0] rfl) hf
          · have hf := zif_t hf h17
            refine lv_goto (tgt := 97) hx hb dX6_giveOutPitches_39 (by decide) ?_
            obtain ⟨x16, ex16, hf⟩ := zlet_inv hf
            refine lv_iinc (v := x16) (lv' := [(2, .int x16), (3, .ref a2), (0, .ref th), (1, .int v1)]) hx hb dX6_giveOutPitches_97 hl (k := 3) rfl (by rw [ex16]; rfl) (by decide) rfl (fun ls hl => ?_)
            refine lv_goto (tgt := 4) hx hb dX6_giveOutPitches_100 (by decide) ?_
            exact ih4 _ _ _ _ v1 x16 hC (lv_sub hl [2, 3, 0] rfl) hf
  unfold f_X6_giveOutPitches at hf
  refine lv_iconst (v := 0) hx hb dX6_giveOutPitches_0 (by decide) ?_
  refine lv_istore_n (lv' := [(1, .int 0), (0, .ref th)]) hx hb dX6_giveOutPitches_1 rfl hl (by decide) rfl (fun ls hl => ?_)
  refine lv_iconst (v := 0) hx hb dX6_giveOutPitches_2 (by decide) ?_
  refine lv_istore_n (lv' := [(2, .int 0), (1, .int 0), (0, .ref th)]) hx hb dX6_giveOutPitches_3 rfl hl (by decide) rfl (fun ls hl => ?_)
  exact L4 z _ _ _ _ 0 0 hC (lv_sub hl [2, 1, 0] rfl) hf
def f_X1_remove (K : Nat → Nat) (z : Nat) (c : zS) (th : Nat) : Option zS :=
  zlet (zui c 20 th 0 0) fun c1 => some c1
set_option maxRecDepth 100000 in
set_option maxHeartbeats 4000000 in
theorem c_X1_remove {l : Launch} {D : va_G} {cy : Nat → ClassId} {base : Nat} {st : Nat → Nat} {K : Nat → Nat} {L : List Nat} {c r : zS} {o : Int64} {z : Nat} (th : Nat) {cf : zS}  (hk_th : K th = 1) (hf : f_X1_remove K z c th = some cf) : Met l yX1_remove wsX1_remove ({ frames := 0, cells := 0, slots := 0, locals := 0 }) (va_Pc [.ref th] (zGW zts0 zns0 D cy base st K L (c, r, o))) (va_Qv (fun (_ : Unit) => True) (fun _ => zB D cy base K L (cf, r, o)) (zA base)) 0 0 (zA base) := by
  refine Met.ofW (cc := cX1_remove) (maxL := 1) (ret := none) (by decide) rfl ?_
  intro p e s m args below meth cd s₁ B hml hv
  obtain ⟨rfl, hG⟩ := hv
  have hx := B.exec
  have hb := B.bytes
  have hr := B.returns
  have hts := atoms_spec (ws := wsX1_remove) B.pre
  have hown : s.vm.findClass RX1 = some m.cls := findClass_of_methodNamed B.named
  have hlocks := B.notSynchronized
  have hC := hG.enter
  have hK := hG.2.2.2.1
  have hi1 : ∀ w ∈ wsX10, w ∈ wsX1_remove := by decide +kernel
  have w0 := hts (.fieldLink RX1 9 "MarketSquare$Spot" "isSet" "Z") (by decide +kernel)
  have hl := lv_entry ([.ref th]) (n := 1) (Nat.le_of_ble_eq_true rfl)
  rw [lg_entry_eq]
  generalize (lg_sl ([.ref th]) ++ List.replicate (1 - (lg_sl ([.ref th])).length) Slot.unset).toArray = ls at hl ⊢
  have hl : lv_has ls 1 [(0, .ref th)] := hl
  unfold f_X1_remove at hf
  refine lv_aload_n hx hb dX1_remove_0 rfl (lv_at hl 0 rfl) ?_
  refine lv_iconst (v := 0) hx hb dX1_remove_1 (by decide) ?_
  obtain ⟨c1, ec1, hf⟩ := zlet_inv hf
  refine zp_1_0 hx hb hts hi1 hown hK hC hk_th w0 (Or.inl rfl) ec1 dX1_remove_2 (fun H locs hC => ?_)
  exact z_vretW hx hb hr hlocks hC hf dX1_remove_5
def f_X6_takeDown (K : Nat → Nat) (z : Nat) (c : zS) (th : Nat) (t1 : Nat) : Option zS :=
  zn K (zr c 85 t1 0) 2 fun a1 => zn K (zr c 40 a1 0) 1 fun a2 => zb (f_X6_rowOrNull K z c th (zi c 21 a2 0)) fun o4 => zo K o4 0 (some c) fun a5 => zb (f_X0_setHolder K z c a5 (zi c 22 a2 0) (zi c 82 t1 0) none) fun c8 => zn K (zr c8 85 t1 0) 2 fun a9 => zn K (zr c8 40 a9 0) 1 fun a10 => zb (f_X1_remove K z c8 a10) fun c13 => zn K (zr c13 81 t1 0) 3 fun a14 => zlet (zui c13 65 a14 0 ((zi c13 65 a14 0) - 1)) fun c15 => zlet (zui c15 132 th 0 ((zi c15 132 th 0) - 1)) fun c16 => (if (zi c16 86 t1 0) = 4 then zb (f_X6_oneIf K z c16 1) fun x21 => zlet (zui c16 133 th 0 ((zi c16 133 th 0) - x21)) fun c22 => some c22 else zb (f_X6_oneIf K z c16 0) fun x18 => zlet (zui c16 133 th 0 ((zi c16 133 th 0) - x18)) fun c19 => some c19)
set_option maxRecDepth 100000 in
set_option maxHeartbeats 4000000 in
theorem c_X6_takeDown {l : Launch} {D : va_G} {cy : Nat → ClassId} {base : Nat} {st : Nat → Nat} {K : Nat → Nat} {L : List Nat} {c r : zS} {o : Int64} {z : Nat} (th : Nat) (t1 : Nat) {cf : zS}  (hk_th : K th = 6) (hk_t1 : K t1 = 4) (hf : f_X6_takeDown K z c th t1 = some cf) : Met l yX6_takeDown wsX6_takeDown ({ frames := 2, cells := 0, slots := 0, locals := 45 }) (va_Pc [.ref th, .ref t1] (zGW zts0 zns0 D cy base st K L (c, r, o))) (va_Qv (fun (_ : Unit) => True) (fun _ => zB D cy base K L (cf, r, o)) (zA base)) 0 0 (zA base) := by
  refine Met.ofW (cc := cX6_takeDown) (maxL := 3) (ret := none) (by decide) rfl ?_
  intro p e s m args below meth cd s₁ B hml hv
  obtain ⟨rfl, hG⟩ := hv
  have hx := B.exec
  have hb := B.bytes
  have hr := B.returns
  have hts := atoms_spec (ws := wsX6_takeDown) B.pre
  have hown : s.vm.findClass RX6 = some m.cls := findClass_of_methodNamed B.named
  have hlocks := B.notSynchronized
  have hC := hG.enter
  have hK := hG.2.2.2.1
  have hi1 : ∀ w ∈ wsX10, w ∈ wsX6_takeDown := by decide +kernel
  have hi2 : ∀ w ∈ wsX20, w ∈ wsX6_takeDown := by decide +kernel
  have hi3 : ∀ w ∈ wsX30, w ∈ wsX6_takeDown := by decide +kernel
  have hi4 : ∀ w ∈ wsX40, w ∈ wsX6_takeDown := by decide +kernel
  have hi6 : ∀ w ∈ wsX60, w ∈ wsX6_takeDown := by decide +kernel
  have w0 := hts (.fieldLink RX6 168 "MarketSquare$Trader" "today" "LMarketSquare$Today;") (by decide +kernel)
  have w1 := hts (.fieldLink RX6 224 "MarketSquare$Today" "stall" "LMarketSquare$Spot;") (by decide +kernel)
  have w2 := hts (.fieldLink RX6 414 "MarketSquare$Spot" "row" "I") (by decide +kernel)
  have w3 := hts (.fieldLink RX6 417 "MarketSquare$Spot" "place" "I") (by decide +kernel)
  have w4 := hts (.fieldLink RX6 260 "MarketSquare$Trader" "front" "I") (by decide +kernel)
  have w5 := hts (.fieldLink RX6 255 "MarketSquare$Trader" "trade" "LMarketSquare$Trade;") (by decide +kernel)
  have w6 := hts (.fieldLink RX6 371 "MarketSquare$Trade" "stalls" "I") (by decide +kernel)
  have w7 := hts (.fieldLink RX6 314 "MarketSquare" "stalls" "I") (by decide +kernel)
  have w8 := hts (.fieldLink RX6 387 "MarketSquare" "charities" "I") (by decide +kernel)
  have w9 := hts (.fieldLink RX6 115 "MarketSquare$Trader" "kind" "I") (by decide +kernel)
  have hl := lv_entry ([.ref th, .ref t1]) (n := 3) (Nat.le_of_ble_eq_true rfl)
  rw [lg_entry_eq]
  generalize (lg_sl ([.ref th, .ref t1]) ++ List.replicate (3 - (lg_sl ([.ref th, .ref t1])).length) Slot.unset).toArray = ls at hl ⊢
  have hl : lv_has ls 3 [(0, .ref th), (1, .ref t1)] := hl
  unfold f_X6_takeDown at hf
  refine lv_aload_n hx hb dX6_takeDown_0 rfl (lv_at hl 0 rfl) ?_
  refine lv_aload_n hx hb dX6_takeDown_1 rfl (lv_at hl 1 rfl) ?_
  refine zg_4_5 hx hb hts hi4 hown hK hC hk_t1 w0 dX6_takeDown_2 ?_
  obtain ⟨a1, ea1, hk_a1, hf⟩ := zn_inv hf
  refine z_ref ea1 ?_
  refine zg_2_0 hx hb hts hi2 hown hK hC hk_a1 w1 dX6_takeDown_5 ?_
  obtain ⟨a2, ea2, hk_a2, hf⟩ := zn_inv hf
  refine z_ref ea2 ?_
  refine zg_1_1 hx hb hts hi1 hown hK hC hk_a2 w2 dX6_takeDown_8 ?_
  obtain ⟨o4, hc3, hf⟩ := zb_inv hf
  refine z_cq (z_rV (As := [.int (zi c 21 a2 0)]) (rest := []) ⟨hx, hb, hml, hown, hts⟩ (c_X6_rowOrNull (l := l) (D := D) (cy := cy) (base := base) (st := st) (K := K) (L := L) (c := c) (r := r) (o := o) (z := z) th (zi c 21 a2 0) hk_th hc3) (cwV 1 hts gX6_takeDown_X6_rowOrNull rfl rfl rfl (by decide +kernel) ⟨Nat.le_of_ble_eq_true rfl, Nat.le_of_ble_eq_true rfl⟩) hG hC (zC.recv (ci := 6) (fs := _) hK hC (by rw [hk_th]; decide) (by rw [hk_th]; exact zc_6 cy _ _) rfl) rfl hl.1 rfl (lv_room (Nat.le_of_ble_eq_true rfl)) dX6_takeDown_11 ⟨Nat.le_of_ble_eq_true rfl, Nat.le_of_ble_eq_true rfl⟩) hC (fun H locs hC => ?_)
  refine z_astore_n (lv' := [(2, va_rf o4), (0, .ref th), (1, .ref t1)]) hx hb dX6_takeDown_14 rfl hl (by decide) rfl (fun ls hl => ?_)
  refine z_aload_n hx hb dX6_takeDown_15 rfl (lv_at hl 0 rfl) ?_
  rcases zo_inv hf with ⟨e0, hf0⟩ | ⟨a5, e0, hk_a5, hf0⟩
  · subst e0; have hf := hf0
    have hl : lv_has ls 3 [(2, .null), (0, .ref th), (1, .ref t1)] := hl
    refine lv_ifnonnullN hx hb dX6_takeDown_16 ?_
    exact z_vretW hx hb hr hlocks hC hf dX6_takeDown_19
  · subst e0; have hf := hf0
    have hl : lv_has ls 3 [(2, .ref a5), (0, .ref th), (1, .ref t1)] := hl
    refine lv_ifnonnull (tgt := 20) hx hb dX6_takeDown_16 (by decide) ?_
    refine lv_aload_n hx hb dX6_takeDown_20 rfl (lv_at hl 0 rfl) ?_
    refine lv_aload_n hx hb dX6_takeDown_21 rfl (lv_at hl 2 rfl) ?_
    refine zg_4_5 hx hb hts hi4 hown hK hC hk_t1 w0 dX6_takeDown_22 ?_
    refine z_ref ea1 ?_
    refine zg_2_0 hx hb hts hi2 hown hK hC hk_a1 w1 dX6_takeDown_25 ?_
    refine z_ref ea2 ?_
    refine zg_1_2 hx hb hts hi1 hown hK hC hk_a2 w3 dX6_takeDown_28 ?_
    refine lv_aload_n hx hb dX6_takeDown_31 rfl (lv_at hl 2 rfl) ?_
    refine zg_4_2 hx hb hts hi4 hown hK hC hk_t1 w4 dX6_takeDown_32 ?_
    refine lv_null hx hb dX6_takeDown_35 ?_
    obtain ⟨c8, hc6, hf⟩ := zb_inv hf
    refine z_cv (z_rV (As := [.int (zi c 22 a2 0), .int (zi c 82 t1 0), va_rf none]) (rest := []) ⟨hx, hb, hml, hown, hts⟩ (c_X0_setHolder (l := l) (D := D) (cy := cy) (base := base) (st := st) (K := K) (L := L) (c := c) (r := r) (o := o) (z := z) a5 (zi c 22 a2 0) (zi c 82 t1 0) none hk_a5 hc6) (cwV 3 hts gX6_takeDown_X0_setHolder rfl rfl rfl (by decide +kernel) ⟨Nat.le_of_ble_eq_true rfl, Nat.le_of_ble_eq_true rfl⟩) hG hC (zC.recv (ci := 0) (fs := _) hK hC (by rw [hk_a5]; decide) (by rw [hk_a5]; exact zc_0 cy _ _) rfl) rfl hl.1 rfl (lv_room (Nat.le_of_ble_eq_true rfl)) dX6_takeDown_36 ⟨Nat.le_of_ble_eq_true rfl, Nat.le_of_ble_eq_true rfl⟩) hC (fun H locs hC => ?_)
    refine lv_aload_n hx hb dX6_takeDown_39 rfl (lv_at hl 2 rfl) ?_
    refine zg_4_5 hx hb hts hi4 hown hK hC hk_t1 w0 dX6_takeDown_40 ?_
    obtain ⟨a9, ea9, hk_a9, hf⟩ := zn_inv hf
    refine z_ref ea9 ?_
    refine zg_2_0 hx hb hts hi2 hown hK hC hk_a9 w1 dX6_takeDown_43 ?_
    obtain ⟨a10, ea10, hk_a10, hf⟩ := zn_inv hf
    refine z_ref ea10 ?_
    obtain ⟨c13, hc11, hf⟩ := zb_inv hf
    refine z_cv (z_rV (As := []) (rest := []) ⟨hx, hb, hml, hown, hts⟩ (c_X1_remove (l := l) (D := D) (cy := cy) (base := base) (st := st) (K := K) (L := L) (c := c8) (r := r) (o := o) (z := z) a10 hk_a10 hc11) (cwV 0 hts gX6_takeDown_X1_remove rfl rfl rfl (by decide +kernel) ⟨Nat.le_of_ble_eq_true rfl, Nat.le_of_ble_eq_true rfl⟩) hG hC (zC.recv (ci := 1) (fs := _) hK hC (by rw [hk_a10]; decide) (by rw [hk_a10]; exact zc_1 cy _ _) rfl) rfl hl.1 rfl (lv_room (Nat.le_of_ble_eq_true rfl)) dX6_takeDown_46 ⟨Nat.le_of_ble_eq_true rfl, Nat.le_of_ble_eq_true rfl⟩) hC (fun H locs hC => ?_)
    refine lv_aload_n hx hb dX6_takeDown_49 rfl (lv_at hl 2 rfl) ?_
    refine zg_4_1 hx hb hts hi4 hown hK hC hk_t1 w5 dX6_takeDown_50 ?_
    obtain ⟨a14, ea14, hk_a14, hf⟩ := zn_inv hf
    refine z_ref ea14 ?_
    refine lv_dup hx hb dX6_takeDown_53 rfl ?_
    refine zg_3_5 hx hb hts hi3 hown hK hC hk_a14 w6 dX6_takeDown_54 ?_
    refine lv_iconst (v := 1) hx hb dX6_takeDown_57 (by decide) ?_
    refine lv_isub hx hb dX6_takeDown_58 ?_
    obtain ⟨c15, ec15, hf⟩ := zlet_inv hf
    refine zp_3_5 hx hb hts hi3 hown hK hC hk_a14 w6 ec15 dX6_takeDown_59 (fun H locs hC => ?_)
    refine lv_aload_n hx hb dX6_takeDown_62 rfl (lv_at hl 1 rfl) ?_
    refine lv_dup hx hb dX6_takeDown_63 rfl ?_
    refine zg_6_12 hx hb hts hi6 hown hK hC hk_th w7 dX6_takeDown_64 ?_
    refine lv_iconst (v := 1) hx hb dX6_takeDown_67 (by decide) ?_
    refine lv_isub hx hb dX6_takeDown_68 ?_
    obtain ⟨c16, ec16, hf⟩ := zlet_inv hf
    refine zp_6_12 hx hb hts hi6 hown hK hC hk_th w7 ec16 dX6_takeDown_69 (fun H locs hC => ?_)
    refine lv_aload_n hx hb dX6_takeDown_72 rfl (lv_at hl 1 rfl) ?_
    refine lv_dup hx hb dX6_takeDown_73 rfl ?_
    refine zg_6_13 hx hb hts hi6 hown hK hC hk_th w8 dX6_takeDown_74 ?_
    refine lv_aload_n hx hb dX6_takeDown_77 rfl (lv_at hl 2 rfl) ?_
    refine zg_4_6 hx hb hts hi4 hown hK hC hk_t1 w9 dX6_takeDown_78 ?_
    refine lv_iconst (v := 4) hx hb dX6_takeDown_81 (by decide) ?_
    refine lv_icmp_ne (tgt := 89) hx hb dX6_takeDown_82 (by decide) (fun h23 => ?_) (fun h23 => ?_)
    · have hf := zif_f hf h23
      refine lv_iconst (v := 0) hx hb dX6_takeDown_89 (by decide) ?_
      obtain ⟨x18, hc17, hf⟩ := zb_inv hf
      refine z_ci (z_rS (b := 0) (As := [.int 0]) (rest := [.int (zi c16 133 th 0), .ref th]) ⟨hx, hb, hml, hown, hts⟩ (c_X6_oneIf (l := l) (D := D) (cy := cy) (base := base) (st := st) (K := K) (L := L) (c := c16) (r := r) (o := o) (z := z) 0  hc17) (va_cwS 1 hts gX6_takeDown_X6_oneIf rfl rfl rfl (by decide +kernel) ⟨Nat.le_of_ble_eq_true rfl, Nat.le_of_ble_eq_true rfl⟩) hG hC rfl hl.1 rfl (lv_room (Nat.le_of_ble_eq_true rfl)) dX6_takeDown_90 ⟨Nat.le_of_ble_eq_true rfl, Nat.le_of_ble_eq_true rfl⟩) hC (fun H locs hC => ?_)
      refine lv_isub hx hb dX6_takeDown_93 ?_
      obtain ⟨c19, ec19, hf⟩ := zlet_inv hf
      refine zp_6_13 hx hb hts hi6 hown hK hC hk_th w8 ec19 dX6_takeDown_94 (fun H locs hC => ?_)
      exact z_vretW hx hb hr hlocks hC hf dX6_takeDown_97
    · have hf := zif_t hf h23
      refine lv_iconst (v := 1) hx hb dX6_takeDown_85 (by decide) ?_
      refine lv_goto (tgt := 90) hx hb dX6_takeDown_86 (by decide) ?_
      obtain ⟨x21, hc20, hf⟩ := zb_inv hf
      refine z_ci (z_rS (b := 0) (As := [.int 1]) (rest := [.int (zi c16 133 th 0), .ref th]) ⟨hx, hb, hml, hown, hts⟩ (c_X6_oneIf (l := l) (D := D) (cy := cy) (base := base) (st := st) (K := K) (L := L) (c := c16) (r := r) (o := o) (z := z) 1  hc20) (va_cwS 1 hts gX6_takeDown_X6_oneIf rfl rfl rfl (by decide +kernel) ⟨Nat.le_of_ble_eq_true rfl, Nat.le_of_ble_eq_true rfl⟩) hG hC rfl hl.1 rfl (lv_room (Nat.le_of_ble_eq_true rfl)) dX6_takeDown_90 ⟨Nat.le_of_ble_eq_true rfl, Nat.le_of_ble_eq_true rfl⟩) hC (fun H locs hC => ?_)
      refine lv_isub hx hb dX6_takeDown_93 ?_
      obtain ⟨c22, ec22, hf⟩ := zlet_inv hf
      refine zp_6_13 hx hb hts hi6 hown hK hC hk_th w8 ec22 dX6_takeDown_94 (fun H locs hC => ?_)
      exact z_vretW hx hb hr hlocks hC hf dX6_takeDown_97
def f_X6_swapIfBothSuit_104 (K : Nat → Nat) (z : Nat) (th : Nat) (t1 : Nat) (t2 : Nat) (c9 : zS) (v3 : Int32) (v4 : Int32) (v5 : Int32) (v6 : Int32) : Option (Int32 × zS) :=
  zb (f_X6_setUp K z c9 th t1 v3 v4) fun c19 => zb (f_X6_setUp K z c19 th t2 v5 v6) fun c22 => some (0, c22)
def f_X6_swapIfBothSuit (K : Nat → Nat) (z : Nat) (c : zS) (th : Nat) (t1 : Nat) (t2 : Nat) : Option (Int32 × zS) :=
  zn K (zr c 85 t1 0) 2 fun a1 => zn K (zr c 40 a1 0) 1 fun a2 => zlet (zi c 21 a2 0) fun x3 => zlet (zi c 22 a2 0) fun x4 => zn K (zr c 85 t2 0) 2 fun a5 => zn K (zr c 40 a5 0) 1 fun a6 => zlet (zi c 21 a6 0) fun x7 => zlet (zi c 22 a6 0) fun x8 => zb (f_X6_takeDown K z c th t1) fun c11 => zb (f_X6_takeDown K z c11 th t2) fun c14 => zb (f_X6_against K z c14 th t1 x7 x8) fun x16 => (if x16 = 0 then zb (f_X6_setUp K z c14 th t1 x7 x8) fun c25 => zb (f_X6_against K z c25 th t2 x3 x4) fun x27 => (if x27 = 0 then zb (f_X6_setUp K z c25 th t2 x3 x4) fun c33 => some (1, c33) else zb (f_X6_takeDown K z c25 th t1) fun c30 => f_X6_swapIfBothSuit_104 K z th t1 t2 c30 x3 x4 x7 x8) else f_X6_swapIfBothSuit_104 K z th t1 t2 c14 x3 x4 x7 x8)
set_option maxRecDepth 100000 in
set_option maxHeartbeats 4000000 in
theorem c_X6_swapIfBothSuit {l : Launch} {D : va_G} {cy : Nat → ClassId} {base : Nat} {st : Nat → Nat} {K : Nat → Nat} {L : List Nat} {c r : zS} {o : Int64} {z : Nat} (th : Nat) (t1 : Nat) (t2 : Nat) {rv : Int32} {cf : zS}  (hk_th : K th = 6) (hk_t1 : K t1 = 4) (hk_t2 : K t2 = 4) (hf : f_X6_swapIfBothSuit K z c th t1 t2 = some (rv, cf)) : Met l yX6_swapIfBothSuit wsX6_swapIfBothSuit ({ frames := 4, cells := 0, slots := 0, locals := 90 }) (va_Pc [.ref th, .ref t1, .ref t2] (zGW zts0 zns0 D cy base st K L (c, r, o))) (va_Qi (fun (rr : Int32) (_ : Unit) => rr = rv) (fun _ => zB D cy base K L (cf, r, o)) (zA base)) 0 0 (zA base) := by
  refine Met.ofW (cc := cX6_swapIfBothSuit) (maxL := 7) (ret := (some .boolean)) (by decide) rfl ?_
  intro p e s m args below meth cd s₁ B hml hv
  obtain ⟨rfl, hG⟩ := hv
  have hx := B.exec
  have hb := B.bytes
  have hr := B.returns
  have hts := atoms_spec (ws := wsX6_swapIfBothSuit) B.pre
  have hown : s.vm.findClass RX6 = some m.cls := findClass_of_methodNamed B.named
  have hlocks := B.notSynchronized
  have hC := hG.enter
  have hK := hG.2.2.2.1
  have hi1 : ∀ w ∈ wsX10, w ∈ wsX6_swapIfBothSuit := by decide +kernel
  have hi2 : ∀ w ∈ wsX20, w ∈ wsX6_swapIfBothSuit := by decide +kernel
  have hi4 : ∀ w ∈ wsX40, w ∈ wsX6_swapIfBothSuit := by decide +kernel
  have w0 := hts (.fieldLink RX6 168 "MarketSquare$Trader" "today" "LMarketSquare$Today;") (by decide +kernel)
  have w1 := hts (.fieldLink RX6 224 "MarketSquare$Today" "stall" "LMarketSquare$Spot;") (by decide +kernel)
  have w2 := hts (.fieldLink RX6 414 "MarketSquare$Spot" "row" "I") (by decide +kernel)
  have w3 := hts (.fieldLink RX6 417 "MarketSquare$Spot" "place" "I") (by decide +kernel)
  have hl := lv_entry ([.ref th, .ref t1, .ref t2]) (n := 7) (Nat.le_of_ble_eq_true rfl)
  rw [lg_entry_eq]
  generalize (lg_sl ([.ref th, .ref t1, .ref t2]) ++ List.replicate (7 - (lg_sl ([.ref th, .ref t1, .ref t2])).length) Slot.unset).toArray = ls at hl ⊢
  have hl : lv_has ls 7 [(0, .ref th), (1, .ref t1), (2, .ref t2)] := hl
  have J104 : ∀ (c9 : zS) (H : Heap) (locs : List Loc) (ls : Array Slot) (v3 : Int32) (v4 : Int32) (v5 : Int32) (v6 : Int32), zC D cy base K L (c9, r, o) s.heap H locs → lv_has ls 7 [(0, .ref th), (1, .ref t1), (2, .ref t2), (3, .int v3), (4, .int v4), (5, .int v5), (6, .int v6)] → f_X6_swapIfBothSuit_104 K z th t1 t2 c9 v3 v4 v5 v6 = some (rv, cf) → W p l e (headSpec wsX6_swapIfBothSuit ({ frames := 4, cells := 0, slots := 0, locals := 90 })).room s m ([.ref th, .ref t1, .ref t2] : List Value).toArray below meth cd H locs 0 0 (MQ below (va_Qi (fun (rr : Int32) (_ : Unit) => rr = rv) (fun _ => zB D cy base K L (cf, r, o)) (zA base)) ([.ref th, .ref t1, .ref t2] : List Value).toArray s 0 0 (zA base)) (F0 m 104 ls []) := by
    intro c9 H locs ls v3 v4 v5 v6 hC hl hf
    unfold f_X6_swapIfBothSuit_104 at hf
    refine lv_aload_n hx hb dX6_swapIfBothSuit_104 rfl (lv_at hl 0 rfl) ?_
    refine lv_aload_n hx hb dX6_swapIfBothSuit_105 rfl (lv_at hl 1 rfl) ?_
    refine lv_iload_n hx hb dX6_swapIfBothSuit_106 rfl (lv_at hl 3 rfl) ?_
    refine lv_iload hx hb dX6_swapIfBothSuit_107 (lv_at hl 4 rfl) ?_
    obtain ⟨c19, hc17, hf⟩ := zb_inv hf
    refine z_cv (z_rV (As := [.ref t1, .int v3, .int v4]) (rest := []) ⟨hx, hb, hml, hown, hts⟩ (c_X6_setUp (l := l) (D := D) (cy := cy) (base := base) (st := st) (K := K) (L := L) (c := c9) (r := r) (o := o) (z := z) th t1 v3 v4 hk_th hk_t1 hc17) (cwV 3 hts gX6_swapIfBothSuit_X6_setUp rfl rfl rfl (by decide +kernel) ⟨Nat.le_of_ble_eq_true rfl, Nat.le_of_ble_eq_true rfl⟩) hG hC (zC.recv (ci := 6) (fs := _) hK hC (by rw [hk_th]; decide) (by rw [hk_th]; exact zc_6 cy _ _) rfl) rfl hl.1 rfl (lv_room (Nat.le_of_ble_eq_true rfl)) dX6_swapIfBothSuit_109 ⟨Nat.le_of_ble_eq_true rfl, Nat.le_of_ble_eq_true rfl⟩) hC (fun H locs hC => ?_)
    refine lv_aload_n hx hb dX6_swapIfBothSuit_112 rfl (lv_at hl 0 rfl) ?_
    refine lv_aload_n hx hb dX6_swapIfBothSuit_113 rfl (lv_at hl 2 rfl) ?_
    refine lv_iload hx hb dX6_swapIfBothSuit_114 (lv_at hl 5 rfl) ?_
    refine lv_iload hx hb dX6_swapIfBothSuit_116 (lv_at hl 6 rfl) ?_
    obtain ⟨c22, hc20, hf⟩ := zb_inv hf
    refine z_cv (z_rV (As := [.ref t2, .int v5, .int v6]) (rest := []) ⟨hx, hb, hml, hown, hts⟩ (c_X6_setUp (l := l) (D := D) (cy := cy) (base := base) (st := st) (K := K) (L := L) (c := c19) (r := r) (o := o) (z := z) th t2 v5 v6 hk_th hk_t2 hc20) (cwV 3 hts gX6_swapIfBothSuit_X6_setUp rfl rfl rfl (by decide +kernel) ⟨Nat.le_of_ble_eq_true rfl, Nat.le_of_ble_eq_true rfl⟩) hG hC (zC.recv (ci := 6) (fs := _) hK hC (by rw [hk_th]; decide) (by rw [hk_th]; exact zc_6 cy _ _) rfl) rfl hl.1 rfl (lv_room (Nat.le_of_ble_eq_true rfl)) dX6_swapIfBothSuit_118 ⟨Nat.le_of_ble_eq_true rfl, Nat.le_of_ble_eq_true rfl⟩) hC (fun H locs hC => ?_)
    refine lv_iconst (v := 0) hx hb dX6_swapIfBothSuit_121 (by decide) ?_
    exact z_zretW hx hb hr hlocks hC (Or.inl rfl) hf dX6_swapIfBothSuit_122
  unfold f_X6_swapIfBothSuit at hf
  refine lv_aload_n hx hb dX6_swapIfBothSuit_0 rfl (lv_at hl 1 rfl) ?_
  refine zg_4_5 hx hb hts hi4 hown hK hC hk_t1 w0 dX6_swapIfBothSuit_1 ?_
  obtain ⟨a1, ea1, hk_a1, hf⟩ := zn_inv hf
  refine z_ref ea1 ?_
  refine zg_2_0 hx hb hts hi2 hown hK hC hk_a1 w1 dX6_swapIfBothSuit_4 ?_
  obtain ⟨a2, ea2, hk_a2, hf⟩ := zn_inv hf
  refine z_ref ea2 ?_
  refine zg_1_1 hx hb hts hi1 hown hK hC hk_a2 w2 dX6_swapIfBothSuit_7 ?_
  obtain ⟨x3, ex3, hf⟩ := zlet_inv hf
  refine z_name ex3 ?_
  refine lv_istore_n (lv' := [(3, .int x3), (0, .ref th), (1, .ref t1), (2, .ref t2)]) hx hb dX6_swapIfBothSuit_10 rfl hl (by decide) rfl (fun ls hl => ?_)
  refine lv_aload_n hx hb dX6_swapIfBothSuit_11 rfl (lv_at hl 2 rfl) ?_
  refine zg_4_5 hx hb hts hi4 hown hK hC hk_t1 w0 dX6_swapIfBothSuit_12 ?_
  refine z_ref ea1 ?_
  refine zg_2_0 hx hb hts hi2 hown hK hC hk_a1 w1 dX6_swapIfBothSuit_15 ?_
  refine z_ref ea2 ?_
  refine zg_1_2 hx hb hts hi1 hown hK hC hk_a2 w3 dX6_swapIfBothSuit_18 ?_
  obtain ⟨x4, ex4, hf⟩ := zlet_inv hf
  refine z_name ex4 ?_
  refine lv_istore (lv' := [(4, .int x4), (3, .int x3), (0, .ref th), (1, .ref t1), (2, .ref t2)]) hx hb dX6_swapIfBothSuit_21 hl (by decide) rfl (fun ls hl => ?_)
  refine lv_aload_n hx hb dX6_swapIfBothSuit_23 rfl (lv_at hl 4 rfl) ?_
  refine zg_4_5 hx hb hts hi4 hown hK hC hk_t2 w0 dX6_swapIfBothSuit_24 ?_
  obtain ⟨a5, ea5, hk_a5, hf⟩ := zn_inv hf
  refine z_ref ea5 ?_
  refine zg_2_0 hx hb hts hi2 hown hK hC hk_a5 w1 dX6_swapIfBothSuit_27 ?_
  obtain ⟨a6, ea6, hk_a6, hf⟩ := zn_inv hf
  refine z_ref ea6 ?_
  refine zg_1_1 hx hb hts hi1 hown hK hC hk_a6 w2 dX6_swapIfBothSuit_30 ?_
  obtain ⟨x7, ex7, hf⟩ := zlet_inv hf
  refine z_name ex7 ?_
  refine lv_istore (lv' := [(5, .int x7), (4, .int x4), (3, .int x3), (0, .ref th), (1, .ref t1), (2, .ref t2)]) hx hb dX6_swapIfBothSuit_33 hl (by decide) rfl (fun ls hl => ?_)
  refine lv_aload_n hx hb dX6_swapIfBothSuit_35 rfl (lv_at hl 5 rfl) ?_
  refine zg_4_5 hx hb hts hi4 hown hK hC hk_t2 w0 dX6_swapIfBothSuit_36 ?_
  refine z_ref ea5 ?_
  refine zg_2_0 hx hb hts hi2 hown hK hC hk_a5 w1 dX6_swapIfBothSuit_39 ?_
  refine z_ref ea6 ?_
  refine zg_1_2 hx hb hts hi1 hown hK hC hk_a6 w3 dX6_swapIfBothSuit_42 ?_
  obtain ⟨x8, ex8, hf⟩ := zlet_inv hf
  refine z_name ex8 ?_
  refine lv_istore (lv' := [(6, .int x8), (5, .int x7), (4, .int x4), (3, .int x3), (0, .ref th), (1, .ref t1), (2, .ref t2)]) hx hb dX6_swapIfBothSuit_45 hl (by decide) rfl (fun ls hl => ?_)
  refine lv_aload_n hx hb dX6_swapIfBothSuit_47 rfl (lv_at hl 4 rfl) ?_
  refine lv_aload_n hx hb dX6_swapIfBothSuit_48 rfl (lv_at hl 5 rfl) ?_
  obtain ⟨c11, hc9, hf⟩ := zb_inv hf
  refine z_cv (z_rV (As := [.ref t1]) (rest := []) ⟨hx, hb, hml, hown, hts⟩ (c_X6_takeDown (l := l) (D := D) (cy := cy) (base := base) (st := st) (K := K) (L := L) (c := c) (r := r) (o := o) (z := z) th t1 hk_th hk_t1 hc9) (cwV 1 hts gX6_swapIfBothSuit_X6_takeDown rfl rfl rfl (by decide +kernel) ⟨Nat.le_of_ble_eq_true rfl, Nat.le_of_ble_eq_true rfl⟩) hG hC (zC.recv (ci := 6) (fs := _) hK hC (by rw [hk_th]; decide) (by rw [hk_th]; exact zc_6 cy _ _) rfl) rfl hl.1 rfl (lv_room (Nat.le_of_ble_eq_true rfl)) dX6_swapIfBothSuit_49 ⟨Nat.le_of_ble_eq_true rfl, Nat.le_of_ble_eq_true rfl⟩) hC (fun H locs hC => ?_)
  refine lv_aload_n hx hb dX6_swapIfBothSuit_52 rfl (lv_at hl 4 rfl) ?_
  refine lv_aload_n hx hb dX6_swapIfBothSuit_53 rfl (lv_at hl 6 rfl) ?_
  obtain ⟨c14, hc12, hf⟩ := zb_inv hf
  refine z_cv (z_rV (As := [.ref t2]) (rest := []) ⟨hx, hb, hml, hown, hts⟩ (c_X6_takeDown (l := l) (D := D) (cy := cy) (base := base) (st := st) (K := K) (L := L) (c := c11) (r := r) (o := o) (z := z) th t2 hk_th hk_t2 hc12) (cwV 1 hts gX6_swapIfBothSuit_X6_takeDown rfl rfl rfl (by decide +kernel) ⟨Nat.le_of_ble_eq_true rfl, Nat.le_of_ble_eq_true rfl⟩) hG hC (zC.recv (ci := 6) (fs := _) hK hC (by rw [hk_th]; decide) (by rw [hk_th]; exact zc_6 cy _ _) rfl) rfl hl.1 rfl (lv_room (Nat.le_of_ble_eq_true rfl)) dX6_swapIfBothSuit_54 ⟨Nat.le_of_ble_eq_true rfl, Nat.le_of_ble_eq_true rfl⟩) hC (fun H locs hC => ?_)
  refine lv_aload_n hx hb dX6_swapIfBothSuit_57 rfl (lv_at hl 4 rfl) ?_
  refine lv_aload_n hx hb dX6_swapIfBothSuit_58 rfl (lv_at hl 5 rfl) ?_
  refine lv_iload hx hb dX6_swapIfBothSuit_59 (lv_at hl 1 rfl) ?_
  refine lv_iload hx hb dX6_swapIfBothSuit_61 (lv_at hl 0 rfl) ?_
  obtain ⟨x16, hc15, hf⟩ := zb_inv hf
  refine z_ci (z_rV (As := [.ref t1, .int x7, .int x8]) (rest := []) ⟨hx, hb, hml, hown, hts⟩ (c_X6_against (l := l) (D := D) (cy := cy) (base := base) (st := st) (K := K) (L := L) (c := c14) (r := r) (o := o) (z := z) th t1 x7 x8 hk_th hk_t1 hc15) (cwV 3 hts gX6_swapIfBothSuit_X6_against rfl rfl rfl (by decide +kernel) ⟨Nat.le_of_ble_eq_true rfl, Nat.le_of_ble_eq_true rfl⟩) hG hC (zC.recv (ci := 6) (fs := _) hK hC (by rw [hk_th]; decide) (by rw [hk_th]; exact zc_6 cy _ _) rfl) rfl hl.1 rfl (lv_room (Nat.le_of_ble_eq_true rfl)) dX6_swapIfBothSuit_63 ⟨Nat.le_of_ble_eq_true rfl, Nat.le_of_ble_eq_true rfl⟩) hC (fun H locs hC => ?_)
  refine lv_if_ne (tgt := 104) hx hb dX6_swapIfBothSuit_66 (by decide) (fun h35 => ?_) (fun h35 => ?_)
  · have hf := zif_f hf h35
    exact J104 _ _ _ _ x3 x4 x7 x8 hC (lv_sub hl [4, 5, 6, 3, 2, 1, 0] rfl) hf
  · have hf := zif_t hf h35
    refine lv_aload_n hx hb dX6_swapIfBothSuit_69 rfl (lv_at hl 4 rfl) ?_
    refine lv_aload_n hx hb dX6_swapIfBothSuit_70 rfl (lv_at hl 5 rfl) ?_
    refine lv_iload hx hb dX6_swapIfBothSuit_71 (lv_at hl 1 rfl) ?_
    refine lv_iload hx hb dX6_swapIfBothSuit_73 (lv_at hl 0 rfl) ?_
    obtain ⟨c25, hc23, hf⟩ := zb_inv hf
    refine z_cv (z_rV (As := [.ref t1, .int x7, .int x8]) (rest := []) ⟨hx, hb, hml, hown, hts⟩ (c_X6_setUp (l := l) (D := D) (cy := cy) (base := base) (st := st) (K := K) (L := L) (c := c14) (r := r) (o := o) (z := z) th t1 x7 x8 hk_th hk_t1 hc23) (cwV 3 hts gX6_swapIfBothSuit_X6_setUp rfl rfl rfl (by decide +kernel) ⟨Nat.le_of_ble_eq_true rfl, Nat.le_of_ble_eq_true rfl⟩) hG hC (zC.recv (ci := 6) (fs := _) hK hC (by rw [hk_th]; decide) (by rw [hk_th]; exact zc_6 cy _ _) rfl) rfl hl.1 rfl (lv_room (Nat.le_of_ble_eq_true rfl)) dX6_swapIfBothSuit_75 ⟨Nat.le_of_ble_eq_true rfl, Nat.le_of_ble_eq_true rfl⟩) hC (fun H locs hC => ?_)
    refine lv_aload_n hx hb dX6_swapIfBothSuit_78 rfl (lv_at hl 4 rfl) ?_
    refine lv_aload_n hx hb dX6_swapIfBothSuit_79 rfl (lv_at hl 6 rfl) ?_
    refine lv_iload_n hx hb dX6_swapIfBothSuit_80 rfl (lv_at hl 3 rfl) ?_
    refine lv_iload hx hb dX6_swapIfBothSuit_81 (lv_at hl 2 rfl) ?_
    obtain ⟨x27, hc26, hf⟩ := zb_inv hf
    refine z_ci (z_rV (As := [.ref t2, .int x3, .int x4]) (rest := []) ⟨hx, hb, hml, hown, hts⟩ (c_X6_against (l := l) (D := D) (cy := cy) (base := base) (st := st) (K := K) (L := L) (c := c25) (r := r) (o := o) (z := z) th t2 x3 x4 hk_th hk_t2 hc26) (cwV 3 hts gX6_swapIfBothSuit_X6_against rfl rfl rfl (by decide +kernel) ⟨Nat.le_of_ble_eq_true rfl, Nat.le_of_ble_eq_true rfl⟩) hG hC (zC.recv (ci := 6) (fs := _) hK hC (by rw [hk_th]; decide) (by rw [hk_th]; exact zc_6 cy _ _) rfl) rfl hl.1 rfl (lv_room (Nat.le_of_ble_eq_true rfl)) dX6_swapIfBothSuit_83 ⟨Nat.le_of_ble_eq_true rfl, Nat.le_of_ble_eq_true rfl⟩) hC (fun H locs hC => ?_)
    refine lv_if_ne (tgt := 99) hx hb dX6_swapIfBothSuit_86 (by decide) (fun h34 => ?_) (fun h34 => ?_)
    · have hf := zif_f hf h34
      refine lv_aload_n hx hb dX6_swapIfBothSuit_99 rfl (lv_at hl 4 rfl) ?_
      refine lv_aload_n hx hb dX6_swapIfBothSuit_100 rfl (lv_at hl 5 rfl) ?_
      obtain ⟨c30, hc28, hf⟩ := zb_inv hf
      refine z_cv (z_rV (As := [.ref t1]) (rest := []) ⟨hx, hb, hml, hown, hts⟩ (c_X6_takeDown (l := l) (D := D) (cy := cy) (base := base) (st := st) (K := K) (L := L) (c := c25) (r := r) (o := o) (z := z) th t1 hk_th hk_t1 hc28) (cwV 1 hts gX6_swapIfBothSuit_X6_takeDown rfl rfl rfl (by decide +kernel) ⟨Nat.le_of_ble_eq_true rfl, Nat.le_of_ble_eq_true rfl⟩) hG hC (zC.recv (ci := 6) (fs := _) hK hC (by rw [hk_th]; decide) (by rw [hk_th]; exact zc_6 cy _ _) rfl) rfl hl.1 rfl (lv_room (Nat.le_of_ble_eq_true rfl)) dX6_swapIfBothSuit_101 ⟨Nat.le_of_ble_eq_true rfl, Nat.le_of_ble_eq_true rfl⟩) hC (fun H locs hC => ?_)
      exact J104 _ _ _ _ x3 x4 x7 x8 hC (lv_sub hl [4, 5, 6, 3, 2, 1, 0] rfl) hf
    · have hf := zif_t hf h34
      refine lv_aload_n hx hb dX6_swapIfBothSuit_89 rfl (lv_at hl 4 rfl) ?_
      refine lv_aload_n hx hb dX6_swapIfBothSuit_90 rfl (lv_at hl 6 rfl) ?_
      refine lv_iload_n hx hb dX6_swapIfBothSuit_91 rfl (lv_at hl 3 rfl) ?_
      refine lv_iload hx hb dX6_swapIfBothSuit_92 (lv_at hl 2 rfl) ?_
      obtain ⟨c33, hc31, hf⟩ := zb_inv hf
      refine z_cv (z_rV (As := [.ref t2, .int x3, .int x4]) (rest := []) ⟨hx, hb, hml, hown, hts⟩ (c_X6_setUp (l := l) (D := D) (cy := cy) (base := base) (st := st) (K := K) (L := L) (c := c25) (r := r) (o := o) (z := z) th t2 x3 x4 hk_th hk_t2 hc31) (cwV 3 hts gX6_swapIfBothSuit_X6_setUp rfl rfl rfl (by decide +kernel) ⟨Nat.le_of_ble_eq_true rfl, Nat.le_of_ble_eq_true rfl⟩) hG hC (zC.recv (ci := 6) (fs := _) hK hC (by rw [hk_th]; decide) (by rw [hk_th]; exact zc_6 cy _ _) rfl) rfl hl.1 rfl (lv_room (Nat.le_of_ble_eq_true rfl)) dX6_swapIfBothSuit_94 ⟨Nat.le_of_ble_eq_true rfl, Nat.le_of_ble_eq_true rfl⟩) hC (fun H locs hC => ?_)
      refine lv_iconst (v := 1) hx hb dX6_swapIfBothSuit_97 (by decide) ?_
      exact z_zretW hx hb hr hlocks hC (Or.inr rfl) hf dX6_swapIfBothSuit_98
def f_X6_feeOf (K : Nat → Nat) (z : Nat) (c : zS) (th : Nat) (t1 : Nat) : Option Int32 :=
  (if (zi c 86 t1 0) = 4 then some 0 else zlet (((zi c 82 t1 0) + 1) / 2) fun x1 => zn K (zr c 85 t1 0) 2 fun a2 => zlet (if ((zi c 131 th 0) - (zi c 41 a2 0)) < 1 then 1 else ((zi c 131 th 0) - (zi c 41 a2 0))) fun x3 => zn K (zr c 81 t1 0) 3 fun a4 => some ((x1 * x3) * (zi c 61 a4 0)))
set_option maxRecDepth 100000 in
set_option maxHeartbeats 4000000 in
theorem c_X6_feeOf {l : Launch} {D : va_G} {cy : Nat → ClassId} {base : Nat} {st : Nat → Nat} {K : Nat → Nat} {L : List Nat} {c r : zS} {o : Int64} {z : Nat} (th : Nat) (t1 : Nat) {rv : Int32}  (hk_th : K th = 6) (hk_t1 : K t1 = 4) (hf : f_X6_feeOf K z c th t1 = some rv) : Met l yX6_feeOf wsX6_feeOf ({ frames := 1, cells := 0, slots := 0, locals := 24 }) (va_Pc [.ref th, .ref t1] (zGW zts0 zns0 D cy base st K L (c, r, o))) (va_Qi (fun (rr : Int32) (_ : Unit) => rr = rv) (fun _ => zB D cy base K L (c, r, o)) (zA base)) 0 0 (zA base) := by
  refine Met.ofW (cc := cX6_feeOf) (maxL := 4) (ret := (some .int)) (by decide) rfl ?_
  intro p e s m args below meth cd s₁ B hml hv
  obtain ⟨rfl, hG⟩ := hv
  have hx := B.exec
  have hb := B.bytes
  have hr := B.returns
  have hts := atoms_spec (ws := wsX6_feeOf) B.pre
  have hown : s.vm.findClass RX6 = some m.cls := findClass_of_methodNamed B.named
  have hlocks := B.notSynchronized
  have hC := hG.enter
  have hK := hG.2.2.2.1
  have hi2 : ∀ w ∈ wsX20, w ∈ wsX6_feeOf := by decide +kernel
  have hi3 : ∀ w ∈ wsX30, w ∈ wsX6_feeOf := by decide +kernel
  have hi4 : ∀ w ∈ wsX40, w ∈ wsX6_feeOf := by decide +kernel
  have hi6 : ∀ w ∈ wsX60, w ∈ wsX6_feeOf := by decide +kernel
  have w0 := hts (.fieldLink RX6 115 "MarketSquare$Trader" "kind" "I") (by decide +kernel)
  have w1 := hts (.fieldLink RX6 260 "MarketSquare$Trader" "front" "I") (by decide +kernel)
  have w2 := hts (.fieldLink RX6 159 "MarketSquare" "hour" "I") (by decide +kernel)
  have w3 := hts (.fieldLink RX6 168 "MarketSquare$Trader" "today" "LMarketSquare$Today;") (by decide +kernel)
  have w4 := hts (.fieldLink RX6 420 "MarketSquare$Today" "cameAt" "I") (by decide +kernel)
  have w5 := hts (.methodLink RX6 433 Lib.Math.max.name) (by decide +kernel)
  have w6 := hts (.static Lib.Math.max.name) (by decide +kernel)
  have w7 := hts (.initialized "java/lang/Math") (by decide +kernel)
  have w8 := hts (.code Lib.Math.max.name Lib.Math.max.code 2 (some .int)) (by decide +kernel)
  have w9 := hts (.fieldLink RX6 255 "MarketSquare$Trader" "trade" "LMarketSquare$Trade;") (by decide +kernel)
  have w10 := hts (.fieldLink RX6 438 "MarketSquare$Trade" "rate" "I") (by decide +kernel)
  have hl := lv_entry ([.ref th, .ref t1]) (n := 4) (Nat.le_of_ble_eq_true rfl)
  rw [lg_entry_eq]
  generalize (lg_sl ([.ref th, .ref t1]) ++ List.replicate (4 - (lg_sl ([.ref th, .ref t1])).length) Slot.unset).toArray = ls at hl ⊢
  have hl : lv_has ls 4 [(0, .ref th), (1, .ref t1)] := hl
  unfold f_X6_feeOf at hf
  refine lv_aload_n hx hb dX6_feeOf_0 rfl (lv_at hl 1 rfl) ?_
  refine zg_4_6 hx hb hts hi4 hown hK hC hk_t1 w0 dX6_feeOf_1 ?_
  refine lv_iconst (v := 4) hx hb dX6_feeOf_4 (by decide) ?_
  refine lv_icmp_ne (tgt := 10) hx hb dX6_feeOf_5 (by decide) (fun h5 => ?_) (fun h5 => ?_)
  · have hf := zif_f hf h5
    refine lv_aload_n hx hb dX6_feeOf_10 rfl (lv_at hl 1 rfl) ?_
    refine zg_4_2 hx hb hts hi4 hown hK hC hk_t1 w1 dX6_feeOf_11 ?_
    refine lv_iconst (v := 1) hx hb dX6_feeOf_14 (by decide) ?_
    refine lv_iadd hx hb dX6_feeOf_15 ?_
    refine lv_iconst (v := 2) hx hb dX6_feeOf_16 (by decide) ?_
    refine lv_idiv hx hb dX6_feeOf_17 (by decide) ?_
    obtain ⟨x1, ex1, hf⟩ := zlet_inv hf
    refine z_name ex1 ?_
    refine lv_istore_n (lv' := [(2, .int x1), (0, .ref th), (1, .ref t1)]) hx hb dX6_feeOf_18 rfl hl (by decide) rfl (fun ls hl => ?_)
    refine lv_aload_n hx hb dX6_feeOf_19 rfl (lv_at hl 1 rfl) ?_
    refine zg_6_11 hx hb hts hi6 hown hK hC hk_th w2 dX6_feeOf_20 ?_
    refine lv_aload_n hx hb dX6_feeOf_23 rfl (lv_at hl 2 rfl) ?_
    refine zg_4_5 hx hb hts hi4 hown hK hC hk_t1 w3 dX6_feeOf_24 ?_
    obtain ⟨a2, ea2, hk_a2, hf⟩ := zn_inv hf
    refine z_ref ea2 ?_
    refine zg_2_1 hx hb hts hi2 hown hK hC hk_a2 w4 dX6_feeOf_27 ?_
    refine lv_isub hx hb dX6_feeOf_30 ?_
    refine lv_iconst (v := 1) hx hb dX6_feeOf_31 (by decide) ?_
    refine va_mmax hx hb (hml.trans hl.1.symm) hown w5 w6 w7 w8 (Nat.le_of_ble_eq_true rfl) (Nat.le_of_ble_eq_true rfl) (Nat.le_of_ble_eq_true rfl) (Nat.le_of_ble_eq_true rfl) dX6_feeOf_32 ?_
    obtain ⟨x3, ex3, hf⟩ := zlet_inv hf
    refine z_name ex3 ?_
    refine lv_istore_n (lv' := [(3, .int x3), (2, .int x1), (0, .ref th), (1, .ref t1)]) hx hb dX6_feeOf_35 rfl hl (by decide) rfl (fun ls hl => ?_)
    refine lv_iload_n hx hb dX6_feeOf_36 rfl (lv_at hl 1 rfl) ?_
    refine lv_iload_n hx hb dX6_feeOf_37 rfl (lv_at hl 0 rfl) ?_
    refine lv_imul hx hb dX6_feeOf_38 ?_
    refine lv_aload_n hx hb dX6_feeOf_39 rfl (lv_at hl 3 rfl) ?_
    refine zg_4_1 hx hb hts hi4 hown hK hC hk_t1 w9 dX6_feeOf_40 ?_
    obtain ⟨a4, ea4, hk_a4, hf⟩ := zn_inv hf
    refine z_ref ea4 ?_
    refine zg_3_1 hx hb hts hi3 hown hK hC hk_a4 w10 dX6_feeOf_43 ?_
    refine lv_imul hx hb dX6_feeOf_46 ?_
    exact z_iret hx hb hr hlocks hC hf dX6_feeOf_47
  · have hf := zif_t hf h5
    refine lv_iconst (v := 0) hx hb dX6_feeOf_8 (by decide) ?_
    exact z_iret hx hb hr hlocks hC hf dX6_feeOf_9
