def f_X7_isFull_4 (K : Nat → Nat) (z : Nat) (r : zS) (th : Nat) (p1 : Int32) : Nat → Int32 → Int32 → Option Int32
  | 0, _, _ => none
  | n + 1, v2, v3 =>
    (if (zi r 35 th 0) ≤ v3 then zn K (zr r 4 th 0) 104 fun a1 => zn K (zr r 9 th 0) 109 fun a2 => zx p1 200 <| zx (zi r 109 a2 (Int32.toNatClampNeg p1)) 20 <| (if v2 < (zi r 104 a1 (Int32.toNatClampNeg (zi r 109 a2 (Int32.toNatClampNeg p1)))) then some 0 else some 1) else zn K (zr r 27 th 0) 127 fun a4 => zx v3 200 <| (if (zi r 127 a4 (Int32.toNatClampNeg v3)) = 0 then zlet (v2 + 0) fun x5 => zlet (v3 + 1) fun x6 => f_X7_isFull_4 K z r th p1 n x5 x6 else (if v3 = p1 then zlet (v2 + 0) fun x7 => zlet (v3 + 1) fun x8 => f_X7_isFull_4 K z r th p1 n x7 x8 else zn K (zr r 9 th 0) 109 fun a9 => zx v3 200 <| zx p1 200 <| (if (zi r 109 a9 (Int32.toNatClampNeg v3)) = (zi r 109 a9 (Int32.toNatClampNeg p1)) then zlet (v2 + 1) fun x12 => zlet (v3 + 1) fun x13 => f_X7_isFull_4 K z r th p1 n x12 x13 else zlet (v2 + 0) fun x10 => zlet (v3 + 1) fun x11 => f_X7_isFull_4 K z r th p1 n x10 x11))))
def f_X7_isFull (K : Nat → Nat) (z : Nat) (r : zS) (th : Nat) (p1 : Int32) : Option Int32 :=
  f_X7_isFull_4 K z r th p1 z 0 0
set_option maxRecDepth 100000 in
set_option maxHeartbeats 4000000 in
theorem c_X7_isFull {l : Launch} {D : va_G} {cy : Nat → ClassId} {base : Nat} {st : Nat → Nat} {K : Nat → Nat} {L : List Nat} {c r : zS} {o : Int64} {z : Nat} (th : Nat) (p1 : Int32) {rv : Int32}  (hk_th : K th = 7) (hf : f_X7_isFull K z r th p1 = some rv) : Met l yX7_isFull wsX7_isFull ({ frames := 0, cells := 0, slots := 0, locals := 0 }) (va_Pc [.ref th, .int p1] (zGW zts0 zns0 D cy base st K L (c, r, o))) (va_Qi (fun (rr : Int32) (_ : Unit) => rr = rv) (fun _ => zB D cy base K L (c, r, o)) (zA base)) 0 0 (zA base) := by
  refine Met.ofW (cc := cX7_isFull) (maxL := 4) (ret := (some .boolean)) (by decide) rfl ?_
  intro p e s m args below meth cd s₁ B hml hv
  obtain ⟨rfl, hG⟩ := hv
  have hx := B.exec
  have hb := B.bytes
  have hr := B.returns
  have hts := atoms_spec (ws := wsX7_isFull) B.pre
  have hown : s.vm.findClass RX7 = some m.cls := findClass_of_methodNamed B.named
  have hlocks := B.notSynchronized
  have hC := hG.enter
  have hK := hG.2.2.2.1
  have hi7 : ∀ w ∈ wsX70, w ∈ wsX7_isFull := by decide +kernel
  have w0 := hts (.fieldLink RX7 131 "MarketSquareModel" "traders" "I") (by decide +kernel)
  have w1 := hts (.fieldLink RX7 20 "MarketSquareModel" "limits" "[I") (by decide +kernel)
  have w2 := hts (.fieldLink RX7 33 "MarketSquareModel" "trade" "[I") (by decide +kernel)
  have w3 := hts (.fieldLink RX7 87 "MarketSquareModel" "stands" "[Z") (by decide +kernel)
  have hl := lv_entry ([.ref th, .int p1]) (n := 4) (Nat.le_of_ble_eq_true rfl)
  rw [lg_entry_eq]
  generalize (lg_sl ([.ref th, .int p1]) ++ List.replicate (4 - (lg_sl ([.ref th, .int p1])).length) Slot.unset).toArray = ls at hl ⊢
  have hl : lv_has ls 4 [(0, .ref th), (1, .int p1)] := hl
  have L4 : ∀ (n4 : Nat) (H : Heap) (locs : List Loc) (ls : Array Slot) (v2 : Int32) (v3 : Int32), zC D cy base K L (c, r, o) s.heap H locs → lv_has ls 4 [(0, .ref th), (1, .int p1), (2, .int v2), (3, .int v3)] → f_X7_isFull_4 K z r th p1 n4 v2 v3 = some rv → W p l e (headSpec wsX7_isFull ({ frames := 0, cells := 0, slots := 0, locals := 0 })).room s m ([.ref th, .int p1] : List Value).toArray below meth cd H locs 0 0 (MQ below (va_Qi (fun (rr : Int32) (_ : Unit) => rr = rv) (fun _ => zB D cy base K L (c, r, o)) (zA base)) ([.ref th, .int p1] : List Value).toArray s 0 0 (zA base)) (F0 m 4 ls []) := by
    intro n4
    induction n4 with
    | zero => intro H locs ls v2 v3 hC hl hf; rw [f_X7_isFull_4] at hf; cases hf
    | succ n4 ih4 =>
      intro H locs ls v2 v3 hC hl hf
      rw [f_X7_isFull_4] at hf
      refine lv_iload_n hx hb dX7_isFull_4 rfl (lv_at hl 3 rfl) ?_
      refine lv_aload_n hx hb dX7_isFull_5 rfl (lv_at hl 0 rfl) ?_
      refine zg_7_35 hx hb hts hi7 hown hK hC hk_th w0 dX7_isFull_6 ?_
      refine lv_icmp_ge (tgt := 55) hx hb dX7_isFull_9 (by decide) (fun h17 => ?_) (fun h17 => ?_)
      · have hf := zif_t hf h17
        refine lv_iload_n hx hb dX7_isFull_55 rfl (lv_at hl 2 rfl) ?_
        refine lv_aload_n hx hb dX7_isFull_56 rfl (lv_at hl 0 rfl) ?_
        refine zg_7_4 hx hb hts hi7 hown hK hC hk_th w1 dX7_isFull_57 ?_
        obtain ⟨a1, ea1, hk_a1, hf⟩ := zn_inv hf
        refine z_ref ea1 ?_
        refine lv_aload_n hx hb dX7_isFull_60 rfl (lv_at hl 0 rfl) ?_
        refine zg_7_9 hx hb hts hi7 hown hK hC hk_th w2 dX7_isFull_61 ?_
        obtain ⟨a2, ea2, hk_a2, hf⟩ := zn_inv hf
        refine z_ref ea2 ?_
        refine lv_iload_n hx hb dX7_isFull_64 rfl (lv_at hl 1 rfl) ?_
        obtain ⟨hix, hf⟩ := zx_inv hf
        refine xg_109 hx hb hK hC hk_a2 hix dX7_isFull_65 ?_
        obtain ⟨hix, hf⟩ := zx_inv hf
        refine xg_104 hx hb hK hC hk_a1 hix dX7_isFull_66 ?_
        refine lv_icmp_lt (tgt := 74) hx hb dX7_isFull_67 (by decide) (fun h3 => ?_) (fun h3 => ?_)
        · have hf := zif_t hf h3
          refine lv_iconst (v := 0) hx hb dX7_isFull_74 (by decide) ?_
          exact z_zret hx hb hr hlocks hC (Or.inl rfl) hf dX7_isFull_75
        · have hf := zif_f hf h3
          refine lv_iconst (v := 1) hx hb dX7_isFull_70 (by decide) ?_
          refine lv_goto (tgt := 75) hx hb dX7_isFull_71 (by decide) ?_
          exact z_zret hx hb hr hlocks hC (Or.inr rfl) hf dX7_isFull_75
      · have hf := zif_f hf h17
        refine lv_iload_n hx hb dX7_isFull_12 rfl (lv_at hl 2 rfl) ?_
        refine lv_aload_n hx hb dX7_isFull_13 rfl (lv_at hl 0 rfl) ?_
        refine zg_7_27 hx hb hts hi7 hown hK hC hk_th w3 dX7_isFull_14 ?_
        obtain ⟨a4, ea4, hk_a4, hf⟩ := zn_inv hf
        refine z_ref ea4 ?_
        refine lv_iload_n hx hb dX7_isFull_17 rfl (lv_at hl 3 rfl) ?_
        obtain ⟨hix, hf⟩ := zx_inv hf
        refine xg_127 hx hb hK hC hk_a4 hix dX7_isFull_18 ?_
        refine lv_if_eq (tgt := 46) hx hb dX7_isFull_19 (by decide) (fun h16 => ?_) (fun h16 => ?_)
        · have hf := zif_t hf h16
          refine lv_iconst (v := 0) hx hb dX7_isFull_46 (by decide) ?_
          refine lv_iadd hx hb dX7_isFull_47 ?_
          obtain ⟨x5, ex5, hf⟩ := zlet_inv hf
          refine z_name ex5 ?_
          refine lv_istore_n (lv' := [(2, .int x5), (0, .ref th), (1, .int p1), (3, .int v3)]) hx hb dX7_isFull_48 rfl hl (by decide) rfl (fun ls hl => ?_)
          obtain ⟨x6, ex6, hf⟩ := zlet_inv hf
          refine lv_iinc (v := x6) (lv' := [(3, .int x6), (2, .int x5), (0, .ref th), (1, .int p1)]) hx hb dX7_isFull_49 hl (k := 3) rfl (by rw [ex6]; rfl) (by decide) rfl (fun ls hl => ?_)
          refine lv_goto (tgt := 4) hx hb dX7_isFull_52 (by decide) ?_
          exact ih4 _ _ _ x5 x6 hC (lv_sub hl [2, 3, 1, 0] rfl) hf
        · have hf := zif_f hf h16
          refine lv_iload_n hx hb dX7_isFull_22 rfl (lv_at hl 3 rfl) ?_
          refine lv_iload_n hx hb dX7_isFull_23 rfl (lv_at hl 1 rfl) ?_
          refine lv_icmp_eq (tgt := 46) hx hb dX7_isFull_24 (by decide) (fun h15 => ?_) (fun h15 => ?_)
          · have hf := zif_t hf h15
            refine lv_iconst (v := 0) hx hb dX7_isFull_46 (by decide) ?_
            refine lv_iadd hx hb dX7_isFull_47 ?_
            obtain ⟨x7, ex7, hf⟩ := zlet_inv hf
            refine z_name ex7 ?_
            refine lv_istore_n (lv' := [(2, .int x7), (0, .ref th), (1, .int p1), (3, .int v3)]) hx hb dX7_isFull_48 rfl hl (by decide) rfl (fun ls hl => ?_)
            obtain ⟨x8, ex8, hf⟩ := zlet_inv hf
            refine lv_iinc (v := x8) (lv' := [(3, .int x8), (2, .int x7), (0, .ref th), (1, .int p1)]) hx hb dX7_isFull_49 hl (k := 3) rfl (by rw [ex8]; rfl) (by decide) rfl (fun ls hl => ?_)
            refine lv_goto (tgt := 4) hx hb dX7_isFull_52 (by decide) ?_
            exact ih4 _ _ _ x7 x8 hC (lv_sub hl [2, 3, 1, 0] rfl) hf
          · have hf := zif_f hf h15
            refine lv_aload_n hx hb dX7_isFull_27 rfl (lv_at hl 0 rfl) ?_
            refine zg_7_9 hx hb hts hi7 hown hK hC hk_th w2 dX7_isFull_28 ?_
            obtain ⟨a9, ea9, hk_a9, hf⟩ := zn_inv hf
            refine z_ref ea9 ?_
            refine lv_iload_n hx hb dX7_isFull_31 rfl (lv_at hl 3 rfl) ?_
            obtain ⟨hix, hf⟩ := zx_inv hf
            refine xg_109 hx hb hK hC hk_a9 hix dX7_isFull_32 ?_
            refine lv_aload_n hx hb dX7_isFull_33 rfl (lv_at hl 0 rfl) ?_
            refine zg_7_9 hx hb hts hi7 hown hK hC hk_th w2 dX7_isFull_34 ?_
            refine z_ref ea9 ?_
            refine lv_iload_n hx hb dX7_isFull_37 rfl (lv_at hl 1 rfl) ?_
            obtain ⟨hix, hf⟩ := zx_inv hf
            refine xg_109 hx hb hK hC hk_a9 hix dX7_isFull_38 ?_
            refine lv_icmp_ne (tgt := 46) hx hb dX7_isFull_39 (by decide) (fun h14 => ?_) (fun h14 => ?_)
            · have hf := zif_f hf h14
              refine lv_iconst (v := 0) hx hb dX7_isFull_46 (by decide) ?_
              refine lv_iadd hx hb dX7_isFull_47 ?_
              obtain ⟨x10, ex10, hf⟩ := zlet_inv hf
              refine z_name ex10 ?_
              refine lv_istore_n (lv' := [(2, .int x10), (0, .ref th), (1, .int p1), (3, .int v3)]) hx hb dX7_isFull_48 rfl hl (by decide) rfl (fun ls hl => ?_)
              obtain ⟨x11, ex11, hf⟩ := zlet_inv hf
              refine lv_iinc (v := x11) (lv' := [(3, .int x11), (2, .int x10), (0, .ref th), (1, .int p1)]) hx hb dX7_isFull_49 hl (k := 3) rfl (by rw [ex11]; rfl) (by decide) rfl (fun ls hl => ?_)
              refine lv_goto (tgt := 4) hx hb dX7_isFull_52 (by decide) ?_
              exact ih4 _ _ _ x10 x11 hC (lv_sub hl [2, 3, 1, 0] rfl) hf
            · have hf := zif_t hf h14
              refine lv_iconst (v := 1) hx hb dX7_isFull_42 (by decide) ?_
              refine lv_goto (tgt := 47) hx hb dX7_isFull_43 (by decide) ?_
              refine lv_iadd hx hb dX7_isFull_47 ?_
              obtain ⟨x12, ex12, hf⟩ := zlet_inv hf
              refine z_name ex12 ?_
              refine lv_istore_n (lv' := [(2, .int x12), (0, .ref th), (1, .int p1), (3, .int v3)]) hx hb dX7_isFull_48 rfl hl (by decide) rfl (fun ls hl => ?_)
              obtain ⟨x13, ex13, hf⟩ := zlet_inv hf
              refine lv_iinc (v := x13) (lv' := [(3, .int x13), (2, .int x12), (0, .ref th), (1, .int p1)]) hx hb dX7_isFull_49 hl (k := 3) rfl (by rw [ex13]; rfl) (by decide) rfl (fun ls hl => ?_)
              refine lv_goto (tgt := 4) hx hb dX7_isFull_52 (by decide) ?_
              exact ih4 _ _ _ x12 x13 hC (lv_sub hl [2, 3, 1, 0] rfl) hf
  unfold f_X7_isFull at hf
  refine lv_iconst (v := 0) hx hb dX7_isFull_0 (by decide) ?_
  refine lv_istore_n (lv' := [(2, .int 0), (0, .ref th), (1, .int p1)]) hx hb dX7_isFull_1 rfl hl (by decide) rfl (fun ls hl => ?_)
  refine lv_iconst (v := 0) hx hb dX7_isFull_2 (by decide) ?_
  refine lv_istore_n (lv' := [(3, .int 0), (2, .int 0), (0, .ref th), (1, .int p1)]) hx hb dX7_isFull_3 rfl hl (by decide) rfl (fun ls hl => ?_)
  exact L4 z _ _ _ 0 0 hC (lv_sub hl [2, 3, 1, 0] rfl) hf
def f_X7_isOutOfMonth (K : Nat → Nat) (z : Nat) (r : zS) (th : Nat) (p1 : Int32) : Option Int32 :=
  zn K (zr r 8 th 0) 108 fun a1 => zx p1 200 <| (if (zi r 108 a1 (Int32.toNatClampNeg p1)) = 2 then zn K (zr r 15 th 0) 115 fun a2 => zx p1 200 <| (if (((zi r 115 a2 (Int32.toNatClampNeg p1)) >>> ((zi r 38 th 0) &&& 31)) &&& 1) = 0 then some 1 else some 0) else some 0)
set_option maxRecDepth 100000 in
set_option maxHeartbeats 4000000 in
theorem c_X7_isOutOfMonth {l : Launch} {D : va_G} {cy : Nat → ClassId} {base : Nat} {st : Nat → Nat} {K : Nat → Nat} {L : List Nat} {c r : zS} {o : Int64} {z : Nat} (th : Nat) (p1 : Int32) {rv : Int32}  (hk_th : K th = 7) (hf : f_X7_isOutOfMonth K z r th p1 = some rv) : Met l yX7_isOutOfMonth wsX7_isOutOfMonth ({ frames := 0, cells := 0, slots := 0, locals := 0 }) (va_Pc [.ref th, .int p1] (zGW zts0 zns0 D cy base st K L (c, r, o))) (va_Qi (fun (rr : Int32) (_ : Unit) => rr = rv) (fun _ => zB D cy base K L (c, r, o)) (zA base)) 0 0 (zA base) := by
  refine Met.ofW (cc := cX7_isOutOfMonth) (maxL := 2) (ret := (some .boolean)) (by decide) rfl ?_
  intro p e s m args below meth cd s₁ B hml hv
  obtain ⟨rfl, hG⟩ := hv
  have hx := B.exec
  have hb := B.bytes
  have hr := B.returns
  have hts := atoms_spec (ws := wsX7_isOutOfMonth) B.pre
  have hown : s.vm.findClass RX7 = some m.cls := findClass_of_methodNamed B.named
  have hlocks := B.notSynchronized
  have hC := hG.enter
  have hK := hG.2.2.2.1
  have hi7 : ∀ w ∈ wsX70, w ∈ wsX7_isOutOfMonth := by decide +kernel
  have w0 := hts (.fieldLink RX7 30 "MarketSquareModel" "kind" "[I") (by decide +kernel)
  have w1 := hts (.fieldLink RX7 51 "MarketSquareModel" "monthBits" "[I") (by decide +kernel)
  have w2 := hts (.fieldLink RX7 172 "MarketSquareModel" "month" "I") (by decide +kernel)
  have hl := lv_entry ([.ref th, .int p1]) (n := 2) (Nat.le_of_ble_eq_true rfl)
  rw [lg_entry_eq]
  generalize (lg_sl ([.ref th, .int p1]) ++ List.replicate (2 - (lg_sl ([.ref th, .int p1])).length) Slot.unset).toArray = ls at hl ⊢
  have hl : lv_has ls 2 [(0, .ref th), (1, .int p1)] := hl
  unfold f_X7_isOutOfMonth at hf
  refine lv_aload_n hx hb dX7_isOutOfMonth_0 rfl (lv_at hl 0 rfl) ?_
  refine zg_7_8 hx hb hts hi7 hown hK hC hk_th w0 dX7_isOutOfMonth_1 ?_
  obtain ⟨a1, ea1, hk_a1, hf⟩ := zn_inv hf
  refine z_ref ea1 ?_
  refine lv_iload_n hx hb dX7_isOutOfMonth_4 rfl (lv_at hl 1 rfl) ?_
  obtain ⟨hix, hf⟩ := zx_inv hf
  refine xg_108 hx hb hK hC hk_a1 hix dX7_isOutOfMonth_5 ?_
  refine lv_iconst (v := 2) hx hb dX7_isOutOfMonth_6 (by decide) ?_
  refine lv_icmp_ne (tgt := 30) hx hb dX7_isOutOfMonth_7 (by decide) (fun h4 => ?_) (fun h4 => ?_)
  · have hf := zif_f hf h4
    refine lv_iconst (v := 0) hx hb dX7_isOutOfMonth_30 (by decide) ?_
    exact z_zret hx hb hr hlocks hC (Or.inl rfl) hf dX7_isOutOfMonth_31
  · have hf := zif_t hf h4
    refine lv_aload_n hx hb dX7_isOutOfMonth_10 rfl (lv_at hl 0 rfl) ?_
    refine zg_7_15 hx hb hts hi7 hown hK hC hk_th w1 dX7_isOutOfMonth_11 ?_
    obtain ⟨a2, ea2, hk_a2, hf⟩ := zn_inv hf
    refine z_ref ea2 ?_
    refine lv_iload_n hx hb dX7_isOutOfMonth_14 rfl (lv_at hl 1 rfl) ?_
    obtain ⟨hix, hf⟩ := zx_inv hf
    refine xg_115 hx hb hK hC hk_a2 hix dX7_isOutOfMonth_15 ?_
    refine lv_aload_n hx hb dX7_isOutOfMonth_16 rfl (lv_at hl 0 rfl) ?_
    refine zg_7_38 hx hb hts hi7 hown hK hC hk_th w2 dX7_isOutOfMonth_17 ?_
    refine lv_ishr hx hb dX7_isOutOfMonth_20 ?_
    refine lv_iconst (v := 1) hx hb dX7_isOutOfMonth_21 (by decide) ?_
    refine lv_iand hx hb dX7_isOutOfMonth_22 ?_
    refine lv_if_ne (tgt := 30) hx hb dX7_isOutOfMonth_23 (by decide) (fun h3 => ?_) (fun h3 => ?_)
    · have hf := zif_f hf h3
      refine lv_iconst (v := 0) hx hb dX7_isOutOfMonth_30 (by decide) ?_
      exact z_zret hx hb hr hlocks hC (Or.inl rfl) hf dX7_isOutOfMonth_31
    · have hf := zif_t hf h3
      refine lv_iconst (v := 1) hx hb dX7_isOutOfMonth_26 (by decide) ?_
      refine lv_goto (tgt := 31) hx hb dX7_isOutOfMonth_27 (by decide) ?_
      exact z_zret hx hb hr hlocks hC (Or.inr rfl) hf dX7_isOutOfMonth_31
def f_X7_against_100 (K : Nat → Nat) (z : Nat) (r : zS) (th : Nat) (p1 : Int32) (p2 : Int32) (p3 : Int32) : Option Int32 :=
  zb (f_X7_anyStops K z r th p1 p2 p3 8) fun x15 => (if x15 = 0 then zb (f_X7_isOutOfMonth K z r th p1) fun x17 => (if x17 = 0 then zb (f_X7_anyStops K z r th p1 p2 p3 10) fun x19 => (if x19 = 0 then some 0 else some 10) else some 9) else some 8)
def f_X7_against (K : Nat → Nat) (z : Nat) (r : zS) (th : Nat) (p1 : Int32) (p2 : Int32) (p3 : Int32) : Option Int32 :=
  zb (f_X7_isWithin K z r th p1 p2 p3) fun x2 => (if x2 = 0 then some 1 else zb (f_X7_isMarked K z r th p1 p2 p3 3) fun x4 => (if x4 = 0 then zb (f_X7_anyStops K z r th p1 p2 p3 3) fun x6 => (if x6 = 0 then zb (f_X7_isFull K z r th p1) fun x8 => (if x8 = 0 then zb (f_X7_anyStops K z r th p1 p2 p3 5) fun x10 => (if x10 = 0 then zb (f_X7_anyStops K z r th p1 p2 p3 6) fun x12 => (if x12 = 0 then zn K (zr r 8 th 0) 108 fun a13 => zx p1 200 <| (if (zi r 108 a13 (Int32.toNatClampNeg p1)) = 3 then zb (f_X7_isMarked K z r th p1 p2 p3 4) fun x24 => (if x24 = 0 then some 7 else f_X7_against_100 K z r th p1 p2 p3) else f_X7_against_100 K z r th p1 p2 p3) else some 6) else some 5) else some 4) else some 3) else some 2))
set_option maxRecDepth 100000 in
set_option maxHeartbeats 4000000 in
theorem c_X7_against {l : Launch} {D : va_G} {cy : Nat → ClassId} {base : Nat} {st : Nat → Nat} {K : Nat → Nat} {L : List Nat} {c r : zS} {o : Int64} {z : Nat} (th : Nat) (p1 : Int32) (p2 : Int32) (p3 : Int32) {rv : Int32}  (hk_th : K th = 7) (hf : f_X7_against K z r th p1 p2 p3 = some rv) : Met l yX7_against wsX7_against ({ frames := 5, cells := 0, slots := 0, locals := 123 }) (va_Pc [.ref th, .int p1, .int p2, .int p3] (zGW zts0 zns0 D cy base st K L (c, r, o))) (va_Qi (fun (rr : Int32) (_ : Unit) => rr = rv) (fun _ => zB D cy base K L (c, r, o)) (zA base)) 0 0 (zA base) := by
  refine Met.ofW (cc := cX7_against) (maxL := 4) (ret := (some .int)) (by decide) rfl ?_
  intro p e s m args below meth cd s₁ B hml hv
  obtain ⟨rfl, hG⟩ := hv
  have hx := B.exec
  have hb := B.bytes
  have hr := B.returns
  have hts := atoms_spec (ws := wsX7_against) B.pre
  have hown : s.vm.findClass RX7 = some m.cls := findClass_of_methodNamed B.named
  have hlocks := B.notSynchronized
  have hC := hG.enter
  have hK := hG.2.2.2.1
  have hi7 : ∀ w ∈ wsX70, w ∈ wsX7_against := by decide +kernel
  have w0 := hts (.fieldLink RX7 30 "MarketSquareModel" "kind" "[I") (by decide +kernel)
  have hl := lv_entry ([.ref th, .int p1, .int p2, .int p3]) (n := 4) (Nat.le_of_ble_eq_true rfl)
  rw [lg_entry_eq]
  generalize (lg_sl ([.ref th, .int p1, .int p2, .int p3]) ++ List.replicate (4 - (lg_sl ([.ref th, .int p1, .int p2, .int p3])).length) Slot.unset).toArray = ls at hl ⊢
  have hl : lv_has ls 4 [(0, .ref th), (1, .int p1), (2, .int p2), (3, .int p3)] := hl
  have J100 : ∀ (H : Heap) (locs : List Loc) (ls : Array Slot), zC D cy base K L (c, r, o) s.heap H locs → lv_has ls 4 [(0, .ref th), (1, .int p1), (2, .int p2), (3, .int p3)] → f_X7_against_100 K z r th p1 p2 p3 = some rv → W p l e (headSpec wsX7_against ({ frames := 5, cells := 0, slots := 0, locals := 123 })).room s m ([.ref th, .int p1, .int p2, .int p3] : List Value).toArray below meth cd H locs 0 0 (MQ below (va_Qi (fun (rr : Int32) (_ : Unit) => rr = rv) (fun _ => zB D cy base K L (c, r, o)) (zA base)) ([.ref th, .int p1, .int p2, .int p3] : List Value).toArray s 0 0 (zA base)) (F0 m 100 ls []) := by
    intro H locs ls hC hl hf
    unfold f_X7_against_100 at hf
    refine lv_aload_n hx hb dX7_against_100 rfl (lv_at hl 0 rfl) ?_
    refine lv_iload_n hx hb dX7_against_101 rfl (lv_at hl 1 rfl) ?_
    refine lv_iload_n hx hb dX7_against_102 rfl (lv_at hl 2 rfl) ?_
    refine lv_iload_n hx hb dX7_against_103 rfl (lv_at hl 3 rfl) ?_
    refine lv_bipush (v := 8) hx hb dX7_against_104 (by decide) ?_
    obtain ⟨x15, hc14, hf⟩ := zb_inv hf
    refine z_ci (z_rV (As := [.int p1, .int p2, .int p3, .int 8]) (rest := []) ⟨hx, hb, hml, hown, hts⟩ (c_X7_anyStops (l := l) (D := D) (cy := cy) (base := base) (st := st) (K := K) (L := L) (c := c) (r := r) (o := o) (z := z) th p1 p2 p3 8 hk_th hc14) (cwV 4 hts gX7_against_X7_anyStops rfl rfl rfl (by decide +kernel) ⟨Nat.le_of_ble_eq_true rfl, Nat.le_of_ble_eq_true rfl⟩) hG hC (zC.recv (ci := 7) (fs := _) hK hC (by rw [hk_th]; decide) (by rw [hk_th]; exact zc_7 cy _ _) rfl) rfl hl.1 rfl (lv_room (Nat.le_of_ble_eq_true rfl)) dX7_against_106 ⟨Nat.le_of_ble_eq_true rfl, Nat.le_of_ble_eq_true rfl⟩) hC (fun H locs hC => ?_)
    refine lv_if_eq (tgt := 115) hx hb dX7_against_109 (by decide) (fun h22 => ?_) (fun h22 => ?_)
    · have hf := zif_t hf h22
      refine lv_aload_n hx hb dX7_against_115 rfl (lv_at hl 0 rfl) ?_
      refine lv_iload_n hx hb dX7_against_116 rfl (lv_at hl 1 rfl) ?_
      obtain ⟨x17, hc16, hf⟩ := zb_inv hf
      refine z_ci (z_rV (As := [.int p1]) (rest := []) ⟨hx, hb, hml, hown, hts⟩ (c_X7_isOutOfMonth (l := l) (D := D) (cy := cy) (base := base) (st := st) (K := K) (L := L) (c := c) (r := r) (o := o) (z := z) th p1 hk_th hc16) (cwV 1 hts gX7_against_X7_isOutOfMonth rfl rfl rfl (by decide +kernel) ⟨Nat.le_of_ble_eq_true rfl, Nat.le_of_ble_eq_true rfl⟩) hG hC (zC.recv (ci := 7) (fs := _) hK hC (by rw [hk_th]; decide) (by rw [hk_th]; exact zc_7 cy _ _) rfl) rfl hl.1 rfl (lv_room (Nat.le_of_ble_eq_true rfl)) dX7_against_117 ⟨Nat.le_of_ble_eq_true rfl, Nat.le_of_ble_eq_true rfl⟩) hC (fun H locs hC => ?_)
      refine lv_if_eq (tgt := 126) hx hb dX7_against_120 (by decide) (fun h21 => ?_) (fun h21 => ?_)
      · have hf := zif_t hf h21
        refine lv_aload_n hx hb dX7_against_126 rfl (lv_at hl 0 rfl) ?_
        refine lv_iload_n hx hb dX7_against_127 rfl (lv_at hl 1 rfl) ?_
        refine lv_iload_n hx hb dX7_against_128 rfl (lv_at hl 2 rfl) ?_
        refine lv_iload_n hx hb dX7_against_129 rfl (lv_at hl 3 rfl) ?_
        refine lv_bipush (v := 10) hx hb dX7_against_130 (by decide) ?_
        obtain ⟨x19, hc18, hf⟩ := zb_inv hf
        refine z_ci (z_rV (As := [.int p1, .int p2, .int p3, .int 10]) (rest := []) ⟨hx, hb, hml, hown, hts⟩ (c_X7_anyStops (l := l) (D := D) (cy := cy) (base := base) (st := st) (K := K) (L := L) (c := c) (r := r) (o := o) (z := z) th p1 p2 p3 10 hk_th hc18) (cwV 4 hts gX7_against_X7_anyStops rfl rfl rfl (by decide +kernel) ⟨Nat.le_of_ble_eq_true rfl, Nat.le_of_ble_eq_true rfl⟩) hG hC (zC.recv (ci := 7) (fs := _) hK hC (by rw [hk_th]; decide) (by rw [hk_th]; exact zc_7 cy _ _) rfl) rfl hl.1 rfl (lv_room (Nat.le_of_ble_eq_true rfl)) dX7_against_132 ⟨Nat.le_of_ble_eq_true rfl, Nat.le_of_ble_eq_true rfl⟩) hC (fun H locs hC => ?_)
        refine lv_if_eq (tgt := 143) hx hb dX7_against_135 (by decide) (fun h20 => ?_) (fun h20 => ?_)
        · have hf := zif_t hf h20
          refine lv_iconst (v := 0) hx hb dX7_against_143 (by decide) ?_
          exact z_iret hx hb hr hlocks hC hf dX7_against_144
        · have hf := zif_f hf h20
          refine lv_bipush (v := 10) hx hb dX7_against_138 (by decide) ?_
          refine lv_goto (tgt := 144) hx hb dX7_against_140 (by decide) ?_
          exact z_iret hx hb hr hlocks hC hf dX7_against_144
      · have hf := zif_f hf h21
        refine lv_bipush (v := 9) hx hb dX7_against_123 (by decide) ?_
        exact z_iret hx hb hr hlocks hC hf dX7_against_125
    · have hf := zif_f hf h22
      refine lv_bipush (v := 8) hx hb dX7_against_112 (by decide) ?_
      exact z_iret hx hb hr hlocks hC hf dX7_against_114
  unfold f_X7_against at hf
  refine lv_aload_n hx hb dX7_against_0 rfl (lv_at hl 0 rfl) ?_
  refine lv_iload_n hx hb dX7_against_1 rfl (lv_at hl 1 rfl) ?_
  refine lv_iload_n hx hb dX7_against_2 rfl (lv_at hl 2 rfl) ?_
  refine lv_iload_n hx hb dX7_against_3 rfl (lv_at hl 3 rfl) ?_
  obtain ⟨x2, hc1, hf⟩ := zb_inv hf
  refine z_ci (z_rV (As := [.int p1, .int p2, .int p3]) (rest := []) ⟨hx, hb, hml, hown, hts⟩ (c_X7_isWithin (l := l) (D := D) (cy := cy) (base := base) (st := st) (K := K) (L := L) (c := c) (r := r) (o := o) (z := z) th p1 p2 p3 hk_th hc1) (cwV 3 hts gX7_against_X7_isWithin rfl rfl rfl (by decide +kernel) ⟨Nat.le_of_ble_eq_true rfl, Nat.le_of_ble_eq_true rfl⟩) hG hC (zC.recv (ci := 7) (fs := _) hK hC (by rw [hk_th]; decide) (by rw [hk_th]; exact zc_7 cy _ _) rfl) rfl hl.1 rfl (lv_room (Nat.le_of_ble_eq_true rfl)) dX7_against_4 ⟨Nat.le_of_ble_eq_true rfl, Nat.le_of_ble_eq_true rfl⟩) hC (fun H locs hC => ?_)
  refine lv_if_ne (tgt := 12) hx hb dX7_against_7 (by decide) (fun h32 => ?_) (fun h32 => ?_)
  · have hf := zif_f hf h32
    refine lv_aload_n hx hb dX7_against_12 rfl (lv_at hl 0 rfl) ?_
    refine lv_iload_n hx hb dX7_against_13 rfl (lv_at hl 1 rfl) ?_
    refine lv_iload_n hx hb dX7_against_14 rfl (lv_at hl 2 rfl) ?_
    refine lv_iload_n hx hb dX7_against_15 rfl (lv_at hl 3 rfl) ?_
    refine lv_iconst (v := 3) hx hb dX7_against_16 (by decide) ?_
    obtain ⟨x4, hc3, hf⟩ := zb_inv hf
    refine z_ci (z_rV (As := [.int p1, .int p2, .int p3, .int 3]) (rest := []) ⟨hx, hb, hml, hown, hts⟩ (c_X7_isMarked (l := l) (D := D) (cy := cy) (base := base) (st := st) (K := K) (L := L) (c := c) (r := r) (o := o) (z := z) th p1 p2 p3 3 hk_th hc3) (cwV 4 hts gX7_against_X7_isMarked rfl rfl rfl (by decide +kernel) ⟨Nat.le_of_ble_eq_true rfl, Nat.le_of_ble_eq_true rfl⟩) hG hC (zC.recv (ci := 7) (fs := _) hK hC (by rw [hk_th]; decide) (by rw [hk_th]; exact zc_7 cy _ _) rfl) rfl hl.1 rfl (lv_room (Nat.le_of_ble_eq_true rfl)) dX7_against_17 ⟨Nat.le_of_ble_eq_true rfl, Nat.le_of_ble_eq_true rfl⟩) hC (fun H locs hC => ?_)
    refine lv_if_eq (tgt := 25) hx hb dX7_against_20 (by decide) (fun h31 => ?_) (fun h31 => ?_)
    · have hf := zif_t hf h31
      refine lv_aload_n hx hb dX7_against_25 rfl (lv_at hl 0 rfl) ?_
      refine lv_iload_n hx hb dX7_against_26 rfl (lv_at hl 1 rfl) ?_
      refine lv_iload_n hx hb dX7_against_27 rfl (lv_at hl 2 rfl) ?_
      refine lv_iload_n hx hb dX7_against_28 rfl (lv_at hl 3 rfl) ?_
      refine lv_iconst (v := 3) hx hb dX7_against_29 (by decide) ?_
      obtain ⟨x6, hc5, hf⟩ := zb_inv hf
      refine z_ci (z_rV (As := [.int p1, .int p2, .int p3, .int 3]) (rest := []) ⟨hx, hb, hml, hown, hts⟩ (c_X7_anyStops (l := l) (D := D) (cy := cy) (base := base) (st := st) (K := K) (L := L) (c := c) (r := r) (o := o) (z := z) th p1 p2 p3 3 hk_th hc5) (cwV 4 hts gX7_against_X7_anyStops rfl rfl rfl (by decide +kernel) ⟨Nat.le_of_ble_eq_true rfl, Nat.le_of_ble_eq_true rfl⟩) hG hC (zC.recv (ci := 7) (fs := _) hK hC (by rw [hk_th]; decide) (by rw [hk_th]; exact zc_7 cy _ _) rfl) rfl hl.1 rfl (lv_room (Nat.le_of_ble_eq_true rfl)) dX7_against_30 ⟨Nat.le_of_ble_eq_true rfl, Nat.le_of_ble_eq_true rfl⟩) hC (fun H locs hC => ?_)
      refine lv_if_eq (tgt := 38) hx hb dX7_against_33 (by decide) (fun h30 => ?_) (fun h30 => ?_)
      · have hf := zif_t hf h30
        refine lv_aload_n hx hb dX7_against_38 rfl (lv_at hl 0 rfl) ?_
        refine lv_iload_n hx hb dX7_against_39 rfl (lv_at hl 1 rfl) ?_
        obtain ⟨x8, hc7, hf⟩ := zb_inv hf
        refine z_ci (z_rV (As := [.int p1]) (rest := []) ⟨hx, hb, hml, hown, hts⟩ (c_X7_isFull (l := l) (D := D) (cy := cy) (base := base) (st := st) (K := K) (L := L) (c := c) (r := r) (o := o) (z := z) th p1 hk_th hc7) (cwV 1 hts gX7_against_X7_isFull rfl rfl rfl (by decide +kernel) ⟨Nat.le_of_ble_eq_true rfl, Nat.le_of_ble_eq_true rfl⟩) hG hC (zC.recv (ci := 7) (fs := _) hK hC (by rw [hk_th]; decide) (by rw [hk_th]; exact zc_7 cy _ _) rfl) rfl hl.1 rfl (lv_room (Nat.le_of_ble_eq_true rfl)) dX7_against_40 ⟨Nat.le_of_ble_eq_true rfl, Nat.le_of_ble_eq_true rfl⟩) hC (fun H locs hC => ?_)
        refine lv_if_eq (tgt := 48) hx hb dX7_against_43 (by decide) (fun h29 => ?_) (fun h29 => ?_)
        · have hf := zif_t hf h29
          refine lv_aload_n hx hb dX7_against_48 rfl (lv_at hl 0 rfl) ?_
          refine lv_iload_n hx hb dX7_against_49 rfl (lv_at hl 1 rfl) ?_
          refine lv_iload_n hx hb dX7_against_50 rfl (lv_at hl 2 rfl) ?_
          refine lv_iload_n hx hb dX7_against_51 rfl (lv_at hl 3 rfl) ?_
          refine lv_iconst (v := 5) hx hb dX7_against_52 (by decide) ?_
          obtain ⟨x10, hc9, hf⟩ := zb_inv hf
          refine z_ci (z_rV (As := [.int p1, .int p2, .int p3, .int 5]) (rest := []) ⟨hx, hb, hml, hown, hts⟩ (c_X7_anyStops (l := l) (D := D) (cy := cy) (base := base) (st := st) (K := K) (L := L) (c := c) (r := r) (o := o) (z := z) th p1 p2 p3 5 hk_th hc9) (cwV 4 hts gX7_against_X7_anyStops rfl rfl rfl (by decide +kernel) ⟨Nat.le_of_ble_eq_true rfl, Nat.le_of_ble_eq_true rfl⟩) hG hC (zC.recv (ci := 7) (fs := _) hK hC (by rw [hk_th]; decide) (by rw [hk_th]; exact zc_7 cy _ _) rfl) rfl hl.1 rfl (lv_room (Nat.le_of_ble_eq_true rfl)) dX7_against_53 ⟨Nat.le_of_ble_eq_true rfl, Nat.le_of_ble_eq_true rfl⟩) hC (fun H locs hC => ?_)
          refine lv_if_eq (tgt := 61) hx hb dX7_against_56 (by decide) (fun h28 => ?_) (fun h28 => ?_)
          · have hf := zif_t hf h28
            refine lv_aload_n hx hb dX7_against_61 rfl (lv_at hl 0 rfl) ?_
            refine lv_iload_n hx hb dX7_against_62 rfl (lv_at hl 1 rfl) ?_
            refine lv_iload_n hx hb dX7_against_63 rfl (lv_at hl 2 rfl) ?_
            refine lv_iload_n hx hb dX7_against_64 rfl (lv_at hl 3 rfl) ?_
            refine lv_bipush (v := 6) hx hb dX7_against_65 (by decide) ?_
            obtain ⟨x12, hc11, hf⟩ := zb_inv hf
            refine z_ci (z_rV (As := [.int p1, .int p2, .int p3, .int 6]) (rest := []) ⟨hx, hb, hml, hown, hts⟩ (c_X7_anyStops (l := l) (D := D) (cy := cy) (base := base) (st := st) (K := K) (L := L) (c := c) (r := r) (o := o) (z := z) th p1 p2 p3 6 hk_th hc11) (cwV 4 hts gX7_against_X7_anyStops rfl rfl rfl (by decide +kernel) ⟨Nat.le_of_ble_eq_true rfl, Nat.le_of_ble_eq_true rfl⟩) hG hC (zC.recv (ci := 7) (fs := _) hK hC (by rw [hk_th]; decide) (by rw [hk_th]; exact zc_7 cy _ _) rfl) rfl hl.1 rfl (lv_room (Nat.le_of_ble_eq_true rfl)) dX7_against_67 ⟨Nat.le_of_ble_eq_true rfl, Nat.le_of_ble_eq_true rfl⟩) hC (fun H locs hC => ?_)
            refine lv_if_eq (tgt := 76) hx hb dX7_against_70 (by decide) (fun h27 => ?_) (fun h27 => ?_)
            · have hf := zif_t hf h27
              refine lv_aload_n hx hb dX7_against_76 rfl (lv_at hl 0 rfl) ?_
              refine zg_7_8 hx hb hts hi7 hown hK hC hk_th w0 dX7_against_77 ?_
              obtain ⟨a13, ea13, hk_a13, hf⟩ := zn_inv hf
              refine z_ref ea13 ?_
              refine lv_iload_n hx hb dX7_against_80 rfl (lv_at hl 1 rfl) ?_
              obtain ⟨hix, hf⟩ := zx_inv hf
              refine xg_108 hx hb hK hC hk_a13 hix dX7_against_81 ?_
              refine lv_iconst (v := 3) hx hb dX7_against_82 (by decide) ?_
              refine lv_icmp_ne (tgt := 100) hx hb dX7_against_83 (by decide) (fun h26 => ?_) (fun h26 => ?_)
              · have hf := zif_f hf h26
                exact J100 _ _ _ hC (lv_sub hl [0, 1, 2, 3] rfl) hf
              · have hf := zif_t hf h26
                refine lv_aload_n hx hb dX7_against_86 rfl (lv_at hl 0 rfl) ?_
                refine lv_iload_n hx hb dX7_against_87 rfl (lv_at hl 1 rfl) ?_
                refine lv_iload_n hx hb dX7_against_88 rfl (lv_at hl 2 rfl) ?_
                refine lv_iload_n hx hb dX7_against_89 rfl (lv_at hl 3 rfl) ?_
                refine lv_iconst (v := 4) hx hb dX7_against_90 (by decide) ?_
                obtain ⟨x24, hc23, hf⟩ := zb_inv hf
                refine z_ci (z_rV (As := [.int p1, .int p2, .int p3, .int 4]) (rest := []) ⟨hx, hb, hml, hown, hts⟩ (c_X7_isMarked (l := l) (D := D) (cy := cy) (base := base) (st := st) (K := K) (L := L) (c := c) (r := r) (o := o) (z := z) th p1 p2 p3 4 hk_th hc23) (cwV 4 hts gX7_against_X7_isMarked rfl rfl rfl (by decide +kernel) ⟨Nat.le_of_ble_eq_true rfl, Nat.le_of_ble_eq_true rfl⟩) hG hC (zC.recv (ci := 7) (fs := _) hK hC (by rw [hk_th]; decide) (by rw [hk_th]; exact zc_7 cy _ _) rfl) rfl hl.1 rfl (lv_room (Nat.le_of_ble_eq_true rfl)) dX7_against_91 ⟨Nat.le_of_ble_eq_true rfl, Nat.le_of_ble_eq_true rfl⟩) hC (fun H locs hC => ?_)
                refine lv_if_ne (tgt := 100) hx hb dX7_against_94 (by decide) (fun h25 => ?_) (fun h25 => ?_)
                · have hf := zif_f hf h25
                  exact J100 _ _ _ hC (lv_sub hl [0, 1, 2, 3] rfl) hf
                · have hf := zif_t hf h25
                  refine lv_bipush (v := 7) hx hb dX7_against_97 (by decide) ?_
                  exact z_iret hx hb hr hlocks hC hf dX7_against_99
            · have hf := zif_f hf h27
              refine lv_bipush (v := 6) hx hb dX7_against_73 (by decide) ?_
              exact z_iret hx hb hr hlocks hC hf dX7_against_75
          · have hf := zif_f hf h28
            refine lv_iconst (v := 5) hx hb dX7_against_59 (by decide) ?_
            exact z_iret hx hb hr hlocks hC hf dX7_against_60
        · have hf := zif_f hf h29
          refine lv_iconst (v := 4) hx hb dX7_against_46 (by decide) ?_
          exact z_iret hx hb hr hlocks hC hf dX7_against_47
      · have hf := zif_f hf h30
        refine lv_iconst (v := 3) hx hb dX7_against_36 (by decide) ?_
        exact z_iret hx hb hr hlocks hC hf dX7_against_37
    · have hf := zif_f hf h31
      refine lv_iconst (v := 2) hx hb dX7_against_23 (by decide) ?_
      exact z_iret hx hb hr hlocks hC hf dX7_against_24
  · have hf := zif_t hf h32
    refine lv_iconst (v := 1) hx hb dX7_against_10 (by decide) ?_
    exact z_iret hx hb hr hlocks hC hf dX7_against_11
def f_X7_comes (K : Nat → Nat) (z : Nat) (r : zS) (th : Nat) (p1 : Int32) (p2 : Int32) (p3 : Int32) : Option zS :=
  zn K (zr r 27 th 0) 127 fun a1 => zx p1 200 <| zlet (zui r 127 a1 (Int32.toNatClampNeg p1) 1) fun r2 => zn K (zr r2 26 th 0) 126 fun a3 => zx p1 200 <| zlet (zui r2 126 a3 (Int32.toNatClampNeg p1) 1) fun r4 => zn K (zr r4 28 th 0) 128 fun a5 => zx p1 200 <| zlet (zui r4 128 a5 (Int32.toNatClampNeg p1) p2) fun r6 => zn K (zr r6 29 th 0) 129 fun a7 => zx p1 200 <| zlet (zui r6 129 a7 (Int32.toNatClampNeg p1) p3) fun r8 => zn K (zr r8 30 th 0) 130 fun a9 => zx p1 200 <| zlet (zui r8 130 a9 (Int32.toNatClampNeg p1) (zi r8 39 th 0)) fun r10 => some r10
set_option maxRecDepth 100000 in
set_option maxHeartbeats 4000000 in
theorem c_X7_comes {l : Launch} {D : va_G} {cy : Nat → ClassId} {base : Nat} {st : Nat → Nat} {K : Nat → Nat} {L : List Nat} {c r : zS} {o : Int64} {z : Nat} (th : Nat) (p1 : Int32) (p2 : Int32) (p3 : Int32) {rf : zS}  (hk_th : K th = 7) (hf : f_X7_comes K z r th p1 p2 p3 = some rf) : Met l yX7_comes wsX7_comes ({ frames := 0, cells := 0, slots := 0, locals := 0 }) (va_Pc [.ref th, .int p1, .int p2, .int p3] (zGW zts0 zns0 D cy base st K L (c, r, o))) (va_Qv (fun (_ : Unit) => True) (fun _ => zB D cy base K L (c, rf, o)) (zA base)) 0 0 (zA base) := by
  refine Met.ofW (cc := cX7_comes) (maxL := 4) (ret := none) (by decide) rfl ?_
  intro p e s m args below meth cd s₁ B hml hv
  obtain ⟨rfl, hG⟩ := hv
  have hx := B.exec
  have hb := B.bytes
  have hr := B.returns
  have hts := atoms_spec (ws := wsX7_comes) B.pre
  have hown : s.vm.findClass RX7 = some m.cls := findClass_of_methodNamed B.named
  have hlocks := B.notSynchronized
  have hC := hG.enter
  have hK := hG.2.2.2.1
  have hi7 : ∀ w ∈ wsX70, w ∈ wsX7_comes := by decide +kernel
  have w0 := hts (.fieldLink RX7 87 "MarketSquareModel" "stands" "[Z") (by decide +kernel)
  have w1 := hts (.fieldLink RX7 84 "MarketSquareModel" "stood" "[Z") (by decide +kernel)
  have w2 := hts (.fieldLink RX7 90 "MarketSquareModel" "stallRow" "[I") (by decide +kernel)
  have w3 := hts (.fieldLink RX7 93 "MarketSquareModel" "stallPlace" "[I") (by decide +kernel)
  have w4 := hts (.fieldLink RX7 96 "MarketSquareModel" "stallHour" "[I") (by decide +kernel)
  have w5 := hts (.fieldLink RX7 220 "MarketSquareModel" "hour" "I") (by decide +kernel)
  have hl := lv_entry ([.ref th, .int p1, .int p2, .int p3]) (n := 4) (Nat.le_of_ble_eq_true rfl)
  rw [lg_entry_eq]
  generalize (lg_sl ([.ref th, .int p1, .int p2, .int p3]) ++ List.replicate (4 - (lg_sl ([.ref th, .int p1, .int p2, .int p3])).length) Slot.unset).toArray = ls at hl ⊢
  have hl : lv_has ls 4 [(0, .ref th), (1, .int p1), (2, .int p2), (3, .int p3)] := hl
  unfold f_X7_comes at hf
  refine lv_aload_n hx hb dX7_comes_0 rfl (lv_at hl 0 rfl) ?_
  refine zg_7_27 hx hb hts hi7 hown hK hC hk_th w0 dX7_comes_1 ?_
  obtain ⟨a1, ea1, hk_a1, hf⟩ := zn_inv hf
  refine z_ref ea1 ?_
  refine lv_iload_n hx hb dX7_comes_4 rfl (lv_at hl 1 rfl) ?_
  refine lv_iconst (v := 1) hx hb dX7_comes_5 (by decide) ?_
  obtain ⟨hix, hf⟩ := zx_inv hf
  obtain ⟨r2, er2, hf⟩ := zlet_inv hf
  refine xp_127 hx hb hK hC hk_a1 hix (Or.inr rfl) er2 dX7_comes_6 (fun H locs hC => ?_)
  refine lv_aload_n hx hb dX7_comes_7 rfl (lv_at hl 0 rfl) ?_
  refine zg_7_26 hx hb hts hi7 hown hK hC hk_th w1 dX7_comes_8 ?_
  obtain ⟨a3, ea3, hk_a3, hf⟩ := zn_inv hf
  refine z_ref ea3 ?_
  refine lv_iload_n hx hb dX7_comes_11 rfl (lv_at hl 1 rfl) ?_
  refine lv_iconst (v := 1) hx hb dX7_comes_12 (by decide) ?_
  obtain ⟨hix, hf⟩ := zx_inv hf
  obtain ⟨r4, er4, hf⟩ := zlet_inv hf
  refine xp_126 hx hb hK hC hk_a3 hix (Or.inr rfl) er4 dX7_comes_13 (fun H locs hC => ?_)
  refine lv_aload_n hx hb dX7_comes_14 rfl (lv_at hl 0 rfl) ?_
  refine zg_7_28 hx hb hts hi7 hown hK hC hk_th w2 dX7_comes_15 ?_
  obtain ⟨a5, ea5, hk_a5, hf⟩ := zn_inv hf
  refine z_ref ea5 ?_
  refine lv_iload_n hx hb dX7_comes_18 rfl (lv_at hl 1 rfl) ?_
  refine lv_iload_n hx hb dX7_comes_19 rfl (lv_at hl 2 rfl) ?_
  obtain ⟨hix, hf⟩ := zx_inv hf
  obtain ⟨r6, er6, hf⟩ := zlet_inv hf
  refine xp_128 hx hb hK hC hk_a5 hix er6 dX7_comes_20 (fun H locs hC => ?_)
  refine lv_aload_n hx hb dX7_comes_21 rfl (lv_at hl 0 rfl) ?_
  refine zg_7_29 hx hb hts hi7 hown hK hC hk_th w3 dX7_comes_22 ?_
  obtain ⟨a7, ea7, hk_a7, hf⟩ := zn_inv hf
  refine z_ref ea7 ?_
  refine lv_iload_n hx hb dX7_comes_25 rfl (lv_at hl 1 rfl) ?_
  refine lv_iload_n hx hb dX7_comes_26 rfl (lv_at hl 3 rfl) ?_
  obtain ⟨hix, hf⟩ := zx_inv hf
  obtain ⟨r8, er8, hf⟩ := zlet_inv hf
  refine xp_129 hx hb hK hC hk_a7 hix er8 dX7_comes_27 (fun H locs hC => ?_)
  refine lv_aload_n hx hb dX7_comes_28 rfl (lv_at hl 0 rfl) ?_
  refine zg_7_30 hx hb hts hi7 hown hK hC hk_th w4 dX7_comes_29 ?_
  obtain ⟨a9, ea9, hk_a9, hf⟩ := zn_inv hf
  refine z_ref ea9 ?_
  refine lv_iload_n hx hb dX7_comes_32 rfl (lv_at hl 1 rfl) ?_
  refine lv_aload_n hx hb dX7_comes_33 rfl (lv_at hl 0 rfl) ?_
  refine zg_7_39 hx hb hts hi7 hown hK hC hk_th w5 dX7_comes_34 ?_
  obtain ⟨hix, hf⟩ := zx_inv hf
  obtain ⟨r10, er10, hf⟩ := zlet_inv hf
  refine xp_130 hx hb hK hC hk_a9 hix er10 dX7_comes_37 (fun H locs hC => ?_)
  exact z_vretM hx hb hr hlocks hC hf dX7_comes_38
def f_X7_bell_64 (K : Nat → Nat) (z : Nat) (th : Nat) : Nat → zS → Int32 → Int32 → Option (Int32 × zS)
  | 0, _, _, _ => none
  | n + 1, rA, v1, v2 =>
    (if (zi rA 35 th 0) ≤ v2 then some (v1, rA) else zn K (zr rA 49 th 0) 149 fun a9 => zx v2 200 <| zlet (zi rA 149 a9 (Int32.toNatClampNeg v2)) fun x10 => zn K (zr rA 12 th 0) 112 fun a11 => zx x10 200 <| (if (zi rA 112 a11 (Int32.toNatClampNeg x10)) = 0 then zlet (v2 + 1) fun x12 => f_X7_bell_64 K z th n rA v1 x12 else zn K (zr rA 21 th 0) 121 fun a13 => zx x10 200 <| (if (zi rA 121 a13 (Int32.toNatClampNeg x10)) = 0 then zlet (v2 + 1) fun x27 => f_X7_bell_64 K z th n rA v1 x27 else zn K (zr rA 13 th 0) 113 fun a14 => zx x10 200 <| zn K (zr rA 14 th 0) 114 fun a15 => zx x10 200 <| zb (f_X7_against K z rA th x10 (zi rA 113 a14 (Int32.toNatClampNeg x10)) (zi rA 114 a15 (Int32.toNatClampNeg x10))) fun x17 => (if x17 = 0 then zx x10 200 <| zx x10 200 <| zb (f_X7_comes K z rA th x10 (zi rA 113 a14 (Int32.toNatClampNeg x10)) (zi rA 114 a15 (Int32.toNatClampNeg x10))) fun r23 => zlet (v1 + 1) fun x24 => zlet (v2 + 1) fun x25 => f_X7_bell_64 K z th n r23 x24 x25 else zn K (zr rA 23 th 0) 123 fun a18 => zx x10 200 <| zlet (zui rA 123 a18 (Int32.toNatClampNeg x10) 1) fun r19 => zlet (v2 + 1) fun x20 => f_X7_bell_64 K z th n r19 v1 x20))))
def f_X7_bell_27 (K : Nat → Nat) (z : Nat) (th : Nat) (rA : zS) (s0 : Nat) (s1 : Int32) : Option (Int32 × zS) :=
  zb2 (f_X7_throwsIf K z rA s0 s1 1) fun x3 r4 => (if x3 = 0 then zlet (zui r4 37 th 0 ((zi r4 37 th 0) + 1)) fun r5 => (if (zi r5 37 th 0) = 3 then some (0, r5) else zb (f_X7_ranks K z r5 th) fun r8 => f_X7_bell_64 K z th z r8 0 0) else some (0, r4))
def f_X7_bell_26 (K : Nat → Nat) (z : Nat) (th : Nat) (rA : zS) (s0 : Nat) : Option (Int32 × zS) :=
  f_X7_bell_27 K z th rA s0 0
def f_X7_bell (K : Nat → Nat) (z : Nat) (r : zS) (th : Nat) : Option (Int32 × zS) :=
  zlet (zui r 0 th 0 0) fun r1 => (if (zi r1 37 th 0) = 1 then f_X7_bell_26 K z th r1 th else (if (zi r1 37 th 0) = 2 then f_X7_bell_26 K z th r1 th else f_X7_bell_27 K z th r1 th 1))
set_option maxRecDepth 100000 in
set_option maxHeartbeats 4000000 in
theorem c_X7_bell {l : Launch} {D : va_G} {cy : Nat → ClassId} {base : Nat} {st : Nat → Nat} {K : Nat → Nat} {L : List Nat} {c r : zS} {o : Int64} {z : Nat} (th : Nat) {rv : Int32} {rf : zS}  (hk_th : K th = 7) (hf : f_X7_bell K z r th = some (rv, rf)) : Met l yX7_bell wsX7_bell ({ frames := 6, cells := 0, slots := 0, locals := 146 }) (va_Pc [.ref th] (zGW zts0 zns0 D cy base st K L (c, r, o))) (va_Qi (fun (rr : Int32) (_ : Unit) => rr = rv) (fun _ => zB D cy base K L (c, rf, o)) (zA base)) 0 0 (zA base) := by
  refine Met.ofW (cc := cX7_bell) (maxL := 4) (ret := (some .int)) (by decide) rfl ?_
  intro p e s m args below meth cd s₁ B hml hv
  obtain ⟨rfl, hG⟩ := hv
  have hx := B.exec
  have hb := B.bytes
  have hr := B.returns
  have hts := atoms_spec (ws := wsX7_bell) B.pre
  have hown : s.vm.findClass RX7 = some m.cls := findClass_of_methodNamed B.named
  have hlocks := B.notSynchronized
  have hC := hG.enter
  have hK := hG.2.2.2.1
  have hi7 : ∀ w ∈ wsX70, w ∈ wsX7_bell := by decide +kernel
  have w0 := hts (.fieldLink RX7 127 "MarketSquareModel" "thrown" "I") (by decide +kernel)
  have w1 := hts (.fieldLink RX7 214 "MarketSquareModel" "time" "I") (by decide +kernel)
  have w2 := hts (.fieldLink RX7 131 "MarketSquareModel" "traders" "I") (by decide +kernel)
  have w3 := hts (.fieldLink RX7 121 "MarketSquareModel" "ranked" "[I") (by decide +kernel)
  have w4 := hts (.fieldLink RX7 42 "MarketSquareModel" "hasPitch" "[Z") (by decide +kernel)
  have w5 := hts (.fieldLink RX7 69 "MarketSquareModel" "isThere" "[Z") (by decide +kernel)
  have w6 := hts (.fieldLink RX7 45 "MarketSquareModel" "pitchRow" "[I") (by decide +kernel)
  have w7 := hts (.fieldLink RX7 48 "MarketSquareModel" "pitchPlace" "[I") (by decide +kernel)
  have w8 := hts (.fieldLink RX7 75 "MarketSquareModel" "slighted" "[Z") (by decide +kernel)
  have hl := lv_entry ([.ref th]) (n := 4) (Nat.le_of_ble_eq_true rfl)
  rw [lg_entry_eq]
  generalize (lg_sl ([.ref th]) ++ List.replicate (4 - (lg_sl ([.ref th])).length) Slot.unset).toArray = ls at hl ⊢
  have hl : lv_has ls 4 [(0, .ref th)] := hl
  have L64 : ∀ (n64 : Nat) (rA : zS) (H : Heap) (locs : List Loc) (ls : Array Slot) (v1 : Int32) (v2 : Int32), zC D cy base K L (c, rA, o) s.heap H locs → lv_has ls 4 [(0, .ref th), (1, .int v1), (2, .int v2)] → f_X7_bell_64 K z th n64 rA v1 v2 = some (rv, rf) → W p l e (headSpec wsX7_bell ({ frames := 6, cells := 0, slots := 0, locals := 146 })).room s m ([.ref th] : List Value).toArray below meth cd H locs 0 0 (MQ below (va_Qi (fun (rr : Int32) (_ : Unit) => rr = rv) (fun _ => zB D cy base K L (c, rf, o)) (zA base)) ([.ref th] : List Value).toArray s 0 0 (zA base)) (F0 m 64 ls []) := by
    intro n64
    induction n64 with
    | zero => intro rA H locs ls v1 v2 hC hl hf; rw [f_X7_bell_64] at hf; cases hf
    | succ n64 ih64 =>
      intro rA H locs ls v1 v2 hC hl hf
      rw [f_X7_bell_64] at hf
      refine lv_iload_n hx hb dX7_bell_64 rfl (lv_at hl 2 rfl) ?_
      refine lv_aload_n hx hb dX7_bell_65 rfl (lv_at hl 0 rfl) ?_
      refine zg_7_35 hx hb hts hi7 hown hK hC hk_th w2 dX7_bell_66 ?_
      refine lv_icmp_ge (tgt := 156) hx hb dX7_bell_69 (by decide) (fun h30 => ?_) (fun h30 => ?_)
      · have hf := zif_t hf h30
        refine lv_iload_n hx hb dX7_bell_156 rfl (lv_at hl 1 rfl) ?_
        exact z_iretM hx hb hr hlocks hC hf dX7_bell_157
      · have hf := zif_f hf h30
        refine lv_aload_n hx hb dX7_bell_72 rfl (lv_at hl 0 rfl) ?_
        refine zg_7_49 hx hb hts hi7 hown hK hC hk_th w3 dX7_bell_73 ?_
        obtain ⟨a9, ea9, hk_a9, hf⟩ := zn_inv hf
        refine z_ref ea9 ?_
        refine lv_iload_n hx hb dX7_bell_76 rfl (lv_at hl 2 rfl) ?_
        obtain ⟨hix, hf⟩ := zx_inv hf
        refine xg_149 hx hb hK hC hk_a9 hix dX7_bell_77 ?_
        obtain ⟨x10, ex10, hf⟩ := zlet_inv hf
        refine z_name ex10 ?_
        refine lv_istore_n (lv' := [(3, .int x10), (0, .ref th), (1, .int v1), (2, .int v2)]) hx hb dX7_bell_78 rfl hl (by decide) rfl (fun ls hl => ?_)
        refine lv_aload_n hx hb dX7_bell_79 rfl (lv_at hl 1 rfl) ?_
        refine zg_7_12 hx hb hts hi7 hown hK hC hk_th w4 dX7_bell_80 ?_
        obtain ⟨a11, ea11, hk_a11, hf⟩ := zn_inv hf
        refine z_ref ea11 ?_
        refine lv_iload_n hx hb dX7_bell_83 rfl (lv_at hl 0 rfl) ?_
        obtain ⟨hix, hf⟩ := zx_inv hf
        refine xg_112 hx hb hK hC hk_a11 hix dX7_bell_84 ?_
        refine lv_if_eq (tgt := 150) hx hb dX7_bell_85 (by decide) (fun h29 => ?_) (fun h29 => ?_)
        · have hf := zif_t hf h29
          obtain ⟨x12, ex12, hf⟩ := zlet_inv hf
          refine lv_iinc (v := x12) (lv' := [(2, .int x12), (3, .int x10), (0, .ref th), (1, .int v1)]) hx hb dX7_bell_150 hl (k := 3) rfl (by rw [ex12]; rfl) (by decide) rfl (fun ls hl => ?_)
          refine lv_goto (tgt := 64) hx hb dX7_bell_153 (by decide) ?_
          exact ih64 _ _ _ _ v1 x12 hC (lv_sub hl [2, 3, 0] rfl) hf
        · have hf := zif_f hf h29
          refine lv_aload_n hx hb dX7_bell_88 rfl (lv_at hl 1 rfl) ?_
          refine zg_7_21 hx hb hts hi7 hown hK hC hk_th w5 dX7_bell_89 ?_
          obtain ⟨a13, ea13, hk_a13, hf⟩ := zn_inv hf
          refine z_ref ea13 ?_
          refine lv_iload_n hx hb dX7_bell_92 rfl (lv_at hl 0 rfl) ?_
          obtain ⟨hix, hf⟩ := zx_inv hf
          refine xg_121 hx hb hK hC hk_a13 hix dX7_bell_93 ?_
          refine lv_if_ne (tgt := 100) hx hb dX7_bell_94 (by decide) (fun h28 => ?_) (fun h28 => ?_)
          · have hf := zif_f hf h28
            refine lv_aload_n hx hb dX7_bell_100 rfl (lv_at hl 1 rfl) ?_
            refine lv_iload_n hx hb dX7_bell_101 rfl (lv_at hl 0 rfl) ?_
            refine lv_aload_n hx hb dX7_bell_102 rfl (lv_at hl 1 rfl) ?_
            refine zg_7_13 hx hb hts hi7 hown hK hC hk_th w6 dX7_bell_103 ?_
            obtain ⟨a14, ea14, hk_a14, hf⟩ := zn_inv hf
            refine z_ref ea14 ?_
            refine lv_iload_n hx hb dX7_bell_106 rfl (lv_at hl 0 rfl) ?_
            obtain ⟨hix, hf⟩ := zx_inv hf
            refine xg_113 hx hb hK hC hk_a14 hix dX7_bell_107 ?_
            refine lv_aload_n hx hb dX7_bell_108 rfl (lv_at hl 1 rfl) ?_
            refine zg_7_14 hx hb hts hi7 hown hK hC hk_th w7 dX7_bell_109 ?_
            obtain ⟨a15, ea15, hk_a15, hf⟩ := zn_inv hf
            refine z_ref ea15 ?_
            refine lv_iload_n hx hb dX7_bell_112 rfl (lv_at hl 0 rfl) ?_
            obtain ⟨hix, hf⟩ := zx_inv hf
            refine xg_114 hx hb hK hC hk_a15 hix dX7_bell_113 ?_
            obtain ⟨x17, hc16, hf⟩ := zb_inv hf
            refine z_ci (z_rV (As := [.int x10, .int (zi rA 113 a14 (Int32.toNatClampNeg x10)), .int (zi rA 114 a15 (Int32.toNatClampNeg x10))]) (rest := []) ⟨hx, hb, hml, hown, hts⟩ (c_X7_against (l := l) (D := D) (cy := cy) (base := base) (st := st) (K := K) (L := L) (c := c) (r := rA) (o := o) (z := z) th x10 (zi rA 113 a14 (Int32.toNatClampNeg x10)) (zi rA 114 a15 (Int32.toNatClampNeg x10)) hk_th hc16) (cwV 3 hts gX7_bell_X7_against rfl rfl rfl (by decide +kernel) ⟨Nat.le_of_ble_eq_true rfl, Nat.le_of_ble_eq_true rfl⟩) hG hC (zC.recv (ci := 7) (fs := _) hK hC (by rw [hk_th]; decide) (by rw [hk_th]; exact zc_7 cy _ _) rfl) rfl hl.1 rfl (lv_room (Nat.le_of_ble_eq_true rfl)) dX7_bell_114 ⟨Nat.le_of_ble_eq_true rfl, Nat.le_of_ble_eq_true rfl⟩) hC (fun H locs hC => ?_)
            refine lv_if_ne (tgt := 143) hx hb dX7_bell_117 (by decide) (fun h26 => ?_) (fun h26 => ?_)
            · have hf := zif_f hf h26
              refine lv_aload_n hx hb dX7_bell_143 rfl (lv_at hl 1 rfl) ?_
              refine zg_7_23 hx hb hts hi7 hown hK hC hk_th w8 dX7_bell_144 ?_
              obtain ⟨a18, ea18, hk_a18, hf⟩ := zn_inv hf
              refine z_ref ea18 ?_
              refine lv_iload_n hx hb dX7_bell_147 rfl (lv_at hl 0 rfl) ?_
              refine lv_iconst (v := 1) hx hb dX7_bell_148 (by decide) ?_
              obtain ⟨hix, hf⟩ := zx_inv hf
              obtain ⟨r19, er19, hf⟩ := zlet_inv hf
              refine xp_123 hx hb hK hC hk_a18 hix (Or.inr rfl) er19 dX7_bell_149 (fun H locs hC => ?_)
              obtain ⟨x20, ex20, hf⟩ := zlet_inv hf
              refine lv_iinc (v := x20) (lv' := [(2, .int x20), (3, .int x10), (0, .ref th), (1, .int v1)]) hx hb dX7_bell_150 hl (k := 3) rfl (by rw [ex20]; rfl) (by decide) rfl (fun ls hl => ?_)
              refine lv_goto (tgt := 64) hx hb dX7_bell_153 (by decide) ?_
              exact ih64 _ _ _ _ v1 x20 hC (lv_sub hl [2, 3, 0] rfl) hf
            · have hf := zif_t hf h26
              refine lv_aload_n hx hb dX7_bell_120 rfl (lv_at hl 1 rfl) ?_
              refine lv_iload_n hx hb dX7_bell_121 rfl (lv_at hl 0 rfl) ?_
              refine lv_aload_n hx hb dX7_bell_122 rfl (lv_at hl 1 rfl) ?_
              refine zg_7_13 hx hb hts hi7 hown hK hC hk_th w6 dX7_bell_123 ?_
              refine z_ref ea14 ?_
              refine lv_iload_n hx hb dX7_bell_126 rfl (lv_at hl 0 rfl) ?_
              obtain ⟨hix, hf⟩ := zx_inv hf
              refine xg_113 hx hb hK hC hk_a14 hix dX7_bell_127 ?_
              refine lv_aload_n hx hb dX7_bell_128 rfl (lv_at hl 1 rfl) ?_
              refine zg_7_14 hx hb hts hi7 hown hK hC hk_th w7 dX7_bell_129 ?_
              refine z_ref ea15 ?_
              refine lv_iload_n hx hb dX7_bell_132 rfl (lv_at hl 0 rfl) ?_
              obtain ⟨hix, hf⟩ := zx_inv hf
              refine xg_114 hx hb hK hC hk_a15 hix dX7_bell_133 ?_
              obtain ⟨r23, hc21, hf⟩ := zb_inv hf
              refine z_cv (z_rV (As := [.int x10, .int (zi rA 113 a14 (Int32.toNatClampNeg x10)), .int (zi rA 114 a15 (Int32.toNatClampNeg x10))]) (rest := []) ⟨hx, hb, hml, hown, hts⟩ (c_X7_comes (l := l) (D := D) (cy := cy) (base := base) (st := st) (K := K) (L := L) (c := c) (r := rA) (o := o) (z := z) th x10 (zi rA 113 a14 (Int32.toNatClampNeg x10)) (zi rA 114 a15 (Int32.toNatClampNeg x10)) hk_th hc21) (cwV 3 hts gX7_bell_X7_comes rfl rfl rfl (by decide +kernel) ⟨Nat.le_of_ble_eq_true rfl, Nat.le_of_ble_eq_true rfl⟩) hG hC (zC.recv (ci := 7) (fs := _) hK hC (by rw [hk_th]; decide) (by rw [hk_th]; exact zc_7 cy _ _) rfl) rfl hl.1 rfl (lv_room (Nat.le_of_ble_eq_true rfl)) dX7_bell_134 ⟨Nat.le_of_ble_eq_true rfl, Nat.le_of_ble_eq_true rfl⟩) hC (fun H locs hC => ?_)
              obtain ⟨x24, ex24, hf⟩ := zlet_inv hf
              refine lv_iinc (v := x24) (lv' := [(1, .int x24), (3, .int x10), (0, .ref th), (2, .int v2)]) hx hb dX7_bell_137 hl (k := 2) rfl (by rw [ex24]; rfl) (by decide) rfl (fun ls hl => ?_)
              refine lv_goto (tgt := 150) hx hb dX7_bell_140 (by decide) ?_
              obtain ⟨x25, ex25, hf⟩ := zlet_inv hf
              refine lv_iinc (v := x25) (lv' := [(2, .int x25), (1, .int x24), (3, .int x10), (0, .ref th)]) hx hb dX7_bell_150 hl (k := 3) rfl (by rw [ex25]; rfl) (by decide) rfl (fun ls hl => ?_)
              refine lv_goto (tgt := 64) hx hb dX7_bell_153 (by decide) ?_
              exact ih64 _ _ _ _ x24 x25 hC (lv_sub hl [3, 1, 0] rfl) hf
          · have hf := zif_t hf h28
            refine lv_goto (tgt := 150) hx hb dX7_bell_97 (by decide) ?_
            obtain ⟨x27, ex27, hf⟩ := zlet_inv hf
            refine lv_iinc (v := x27) (lv' := [(2, .int x27), (3, .int x10), (0, .ref th), (1, .int v1)]) hx hb dX7_bell_150 hl (k := 3) rfl (by rw [ex27]; rfl) (by decide) rfl (fun ls hl => ?_)
            refine lv_goto (tgt := 64) hx hb dX7_bell_153 (by decide) ?_
            exact ih64 _ _ _ _ v1 x27 hC (lv_sub hl [2, 3, 0] rfl) hf
  have J27 : ∀ (rA : zS) (H : Heap) (locs : List Loc) (ls : Array Slot) (s0 : Nat) (s1 : Int32), K s0 = 7 → zC D cy base K L (c, rA, o) s.heap H locs → lv_has ls 4 [(0, .ref th)] → f_X7_bell_27 K z th rA s0 s1 = some (rv, rf) → W p l e (headSpec wsX7_bell ({ frames := 6, cells := 0, slots := 0, locals := 146 })).room s m ([.ref th] : List Value).toArray below meth cd H locs 0 0 (MQ below (va_Qi (fun (rr : Int32) (_ : Unit) => rr = rv) (fun _ => zB D cy base K L (c, rf, o)) (zA base)) ([.ref th] : List Value).toArray s 0 0 (zA base)) (F0 m 27 ls [.int s1, .ref s0]) := by
    intro rA H locs ls s0 s1 hk_s0 hC hl hf
    unfold f_X7_bell_27 at hf
    refine lv_iconst (v := 1) hx hb dX7_bell_27 (by decide) ?_
    obtain ⟨x3, r4, hc2, hf⟩ := zb2_inv hf
    refine z_ci (z_rV (As := [.int s1, .int 1]) (rest := []) ⟨hx, hb, hml, hown, hts⟩ (c_X7_throwsIf (l := l) (D := D) (cy := cy) (base := base) (st := st) (K := K) (L := L) (c := c) (r := rA) (o := o) (z := z) s0 s1 1 hk_s0 hc2) (cwV 2 hts gX7_bell_X7_throwsIf rfl rfl rfl (by decide +kernel) ⟨Nat.le_of_ble_eq_true rfl, Nat.le_of_ble_eq_true rfl⟩) hG hC (zC.recv (ci := 7) (fs := _) hK hC (by rw [hk_s0]; decide) (by rw [hk_s0]; exact zc_7 cy _ _) rfl) rfl hl.1 rfl (lv_room (Nat.le_of_ble_eq_true rfl)) dX7_bell_28 ⟨Nat.le_of_ble_eq_true rfl, Nat.le_of_ble_eq_true rfl⟩) hC (fun H locs hC => ?_)
    refine lv_if_eq (tgt := 36) hx hb dX7_bell_31 (by decide) (fun h32 => ?_) (fun h32 => ?_)
    · have hf := zif_t hf h32
      refine lv_aload_n hx hb dX7_bell_36 rfl (lv_at hl 0 rfl) ?_
      refine lv_dup hx hb dX7_bell_37 rfl ?_
      refine zg_7_37 hx hb hts hi7 hown hK hC hk_th w1 dX7_bell_38 ?_
      refine lv_iconst (v := 1) hx hb dX7_bell_41 (by decide) ?_
      refine lv_iadd hx hb dX7_bell_42 ?_
      obtain ⟨r5, er5, hf⟩ := zlet_inv hf
      refine zp_7_37 hx hb hts hi7 hown hK hC hk_th w1 er5 dX7_bell_43 (fun H locs hC => ?_)
      refine lv_aload_n hx hb dX7_bell_46 rfl (lv_at hl 0 rfl) ?_
      refine zg_7_37 hx hb hts hi7 hown hK hC hk_th w1 dX7_bell_47 ?_
      refine lv_iconst (v := 3) hx hb dX7_bell_50 (by decide) ?_
      refine lv_icmp_ne (tgt := 56) hx hb dX7_bell_51 (by decide) (fun h31 => ?_) (fun h31 => ?_)
      · have hf := zif_f hf h31
        refine lv_aload_n hx hb dX7_bell_56 rfl (lv_at hl 0 rfl) ?_
        obtain ⟨r8, hc6, hf⟩ := zb_inv hf
        refine z_cv (z_rV (As := []) (rest := []) ⟨hx, hb, hml, hown, hts⟩ (c_X7_ranks (l := l) (D := D) (cy := cy) (base := base) (st := st) (K := K) (L := L) (c := c) (r := r5) (o := o) (z := z) th hk_th hc6) (cwV 0 hts gX7_bell_X7_ranks rfl rfl rfl (by decide +kernel) ⟨Nat.le_of_ble_eq_true rfl, Nat.le_of_ble_eq_true rfl⟩) hG hC (zC.recv (ci := 7) (fs := _) hK hC (by rw [hk_th]; decide) (by rw [hk_th]; exact zc_7 cy _ _) rfl) rfl hl.1 rfl (lv_room (Nat.le_of_ble_eq_true rfl)) dX7_bell_57 ⟨Nat.le_of_ble_eq_true rfl, Nat.le_of_ble_eq_true rfl⟩) hC (fun H locs hC => ?_)
        refine lv_iconst (v := 0) hx hb dX7_bell_60 (by decide) ?_
        refine lv_istore_n (lv' := [(1, .int 0), (0, .ref th)]) hx hb dX7_bell_61 rfl hl (by decide) rfl (fun ls hl => ?_)
        refine lv_iconst (v := 0) hx hb dX7_bell_62 (by decide) ?_
        refine lv_istore_n (lv' := [(2, .int 0), (1, .int 0), (0, .ref th)]) hx hb dX7_bell_63 rfl hl (by decide) rfl (fun ls hl => ?_)
        exact L64 z _ _ _ _ 0 0 hC (lv_sub hl [2, 1, 0] rfl) hf
      · have hf := zif_t hf h31
        refine lv_iconst (v := 0) hx hb dX7_bell_54 (by decide) ?_
        exact z_iretM hx hb hr hlocks hC hf dX7_bell_55
    · have hf := zif_f hf h32
      refine lv_iconst (v := 0) hx hb dX7_bell_34 (by decide) ?_
      exact z_iretM hx hb hr hlocks hC hf dX7_bell_35
  have J26 : ∀ (rA : zS) (H : Heap) (locs : List Loc) (ls : Array Slot) (s0 : Nat), K s0 = 7 → zC D cy base K L (c, rA, o) s.heap H locs → lv_has ls 4 [(0, .ref th)] → f_X7_bell_26 K z th rA s0 = some (rv, rf) → W p l e (headSpec wsX7_bell ({ frames := 6, cells := 0, slots := 0, locals := 146 })).room s m ([.ref th] : List Value).toArray below meth cd H locs 0 0 (MQ below (va_Qi (fun (rr : Int32) (_ : Unit) => rr = rv) (fun _ => zB D cy base K L (c, rf, o)) (zA base)) ([.ref th] : List Value).toArray s 0 0 (zA base)) (F0 m 26 ls [.ref s0]) := by
    intro rA H locs ls s0 hk_s0 hC hl hf
    unfold f_X7_bell_26 at hf
    refine lv_iconst (v := 0) hx hb dX7_bell_26 (by decide) ?_
    exact J27 _ _ _ _ s0 0 hk_s0 hC (lv_sub hl [0] rfl) hf
  unfold f_X7_bell at hf
  refine lv_aload_n hx hb dX7_bell_0 rfl (lv_at hl 0 rfl) ?_
  refine lv_iconst (v := 0) hx hb dX7_bell_1 (by decide) ?_
  obtain ⟨r1, er1, hf⟩ := zlet_inv hf
  refine zp_7_0 hx hb hts hi7 hown hK hC hk_th w0 er1 dX7_bell_2 (fun H locs hC => ?_)
  refine lv_aload_n hx hb dX7_bell_5 rfl (lv_at hl 0 rfl) ?_
  refine lv_aload_n hx hb dX7_bell_6 rfl (lv_at hl 0 rfl) ?_
  refine zg_7_37 hx hb hts hi7 hown hK hC hk_th w1 dX7_bell_7 ?_
  refine lv_iconst (v := 1) hx hb dX7_bell_10 (by decide) ?_
  refine lv_icmp_eq (tgt := 26) hx hb dX7_bell_11 (by decide) (fun h34 => ?_) (fun h34 => ?_)
  · have hf := zif_t hf h34
    exact J26 _ _ _ _ th hk_th hC (lv_sub hl [0] rfl) hf
  · have hf := zif_f hf h34
    refine lv_aload_n hx hb dX7_bell_14 rfl (lv_at hl 0 rfl) ?_
    refine zg_7_37 hx hb hts hi7 hown hK hC hk_th w1 dX7_bell_15 ?_
    refine lv_iconst (v := 2) hx hb dX7_bell_18 (by decide) ?_
    refine lv_icmp_eq (tgt := 26) hx hb dX7_bell_19 (by decide) (fun h33 => ?_) (fun h33 => ?_)
    · have hf := zif_t hf h33
      exact J26 _ _ _ _ th hk_th hC (lv_sub hl [0] rfl) hf
    · have hf := zif_f hf h33
      refine lv_iconst (v := 1) hx hb dX7_bell_22 (by decide) ?_
      refine lv_goto (tgt := 27) hx hb dX7_bell_23 (by decide) ?_
      exact J27 _ _ _ _ th 1 hk_th hC (lv_sub hl [0] rfl) hf
def f_X7_why (K : Nat → Nat) (z : Nat) (r : zS) (th : Nat) (p1 : Int32) (p2 : Int32) (p3 : Int32) : Option (Int32 × zS) :=
  zlet (zui r 0 th 0 0) fun r1 => zb (f_X7_noTrader K z r1 th p1) fun x3 => zb2 (f_X7_throwsIf K z r1 th x3 1) fun x5 r6 => (if x5 = 0 then zb (f_X7_against K z r6 th p1 p2 p3) fun x8 => some (x8, r6) else some (0, r6))
set_option maxRecDepth 100000 in
set_option maxHeartbeats 4000000 in
theorem c_X7_why {l : Launch} {D : va_G} {cy : Nat → ClassId} {base : Nat} {st : Nat → Nat} {K : Nat → Nat} {L : List Nat} {c r : zS} {o : Int64} {z : Nat} (th : Nat) (p1 : Int32) (p2 : Int32) (p3 : Int32) {rv : Int32} {rf : zS}  (hk_th : K th = 7) (hf : f_X7_why K z r th p1 p2 p3 = some (rv, rf)) : Met l yX7_why wsX7_why ({ frames := 6, cells := 0, slots := 0, locals := 146 }) (va_Pc [.ref th, .int p1, .int p2, .int p3] (zGW zts0 zns0 D cy base st K L (c, r, o))) (va_Qi (fun (rr : Int32) (_ : Unit) => rr = rv) (fun _ => zB D cy base K L (c, rf, o)) (zA base)) 0 0 (zA base) := by
  refine Met.ofW (cc := cX7_why) (maxL := 4) (ret := (some .int)) (by decide) rfl ?_
  intro p e s m args below meth cd s₁ B hml hv
  obtain ⟨rfl, hG⟩ := hv
  have hx := B.exec
  have hb := B.bytes
  have hr := B.returns
  have hts := atoms_spec (ws := wsX7_why) B.pre
  have hown : s.vm.findClass RX7 = some m.cls := findClass_of_methodNamed B.named
  have hlocks := B.notSynchronized
  have hC := hG.enter
  have hK := hG.2.2.2.1
  have hi7 : ∀ w ∈ wsX70, w ∈ wsX7_why := by decide +kernel
  have w0 := hts (.fieldLink RX7 127 "MarketSquareModel" "thrown" "I") (by decide +kernel)
  have hl := lv_entry ([.ref th, .int p1, .int p2, .int p3]) (n := 4) (Nat.le_of_ble_eq_true rfl)
  rw [lg_entry_eq]
  generalize (lg_sl ([.ref th, .int p1, .int p2, .int p3]) ++ List.replicate (4 - (lg_sl ([.ref th, .int p1, .int p2, .int p3])).length) Slot.unset).toArray = ls at hl ⊢
  have hl : lv_has ls 4 [(0, .ref th), (1, .int p1), (2, .int p2), (3, .int p3)] := hl
  unfold f_X7_why at hf
  refine lv_aload_n hx hb dX7_why_0 rfl (lv_at hl 0 rfl) ?_
  refine lv_iconst (v := 0) hx hb dX7_why_1 (by decide) ?_
  obtain ⟨r1, er1, hf⟩ := zlet_inv hf
  refine zp_7_0 hx hb hts hi7 hown hK hC hk_th w0 er1 dX7_why_2 (fun H locs hC => ?_)
  refine lv_aload_n hx hb dX7_why_5 rfl (lv_at hl 0 rfl) ?_
  refine lv_aload_n hx hb dX7_why_6 rfl (lv_at hl 0 rfl) ?_
  refine lv_iload_n hx hb dX7_why_7 rfl (lv_at hl 1 rfl) ?_
  obtain ⟨x3, hc2, hf⟩ := zb_inv hf
  refine z_ci (z_rV (As := [.int p1]) (rest := [.ref th]) ⟨hx, hb, hml, hown, hts⟩ (c_X7_noTrader (l := l) (D := D) (cy := cy) (base := base) (st := st) (K := K) (L := L) (c := c) (r := r1) (o := o) (z := z) th p1 hk_th hc2) (cwV 1 hts gX7_why_X7_noTrader rfl rfl rfl (by decide +kernel) ⟨Nat.le_of_ble_eq_true rfl, Nat.le_of_ble_eq_true rfl⟩) hG hC (zC.recv (ci := 7) (fs := _) hK hC (by rw [hk_th]; decide) (by rw [hk_th]; exact zc_7 cy _ _) rfl) rfl hl.1 rfl (lv_room (Nat.le_of_ble_eq_true rfl)) dX7_why_8 ⟨Nat.le_of_ble_eq_true rfl, Nat.le_of_ble_eq_true rfl⟩) hC (fun H locs hC => ?_)
  refine lv_iconst (v := 1) hx hb dX7_why_11 (by decide) ?_
  obtain ⟨x5, r6, hc4, hf⟩ := zb2_inv hf
  refine z_ci (z_rV (As := [.int x3, .int 1]) (rest := []) ⟨hx, hb, hml, hown, hts⟩ (c_X7_throwsIf (l := l) (D := D) (cy := cy) (base := base) (st := st) (K := K) (L := L) (c := c) (r := r1) (o := o) (z := z) th x3 1 hk_th hc4) (cwV 2 hts gX7_why_X7_throwsIf rfl rfl rfl (by decide +kernel) ⟨Nat.le_of_ble_eq_true rfl, Nat.le_of_ble_eq_true rfl⟩) hG hC (zC.recv (ci := 7) (fs := _) hK hC (by rw [hk_th]; decide) (by rw [hk_th]; exact zc_7 cy _ _) rfl) rfl hl.1 rfl (lv_room (Nat.le_of_ble_eq_true rfl)) dX7_why_12 ⟨Nat.le_of_ble_eq_true rfl, Nat.le_of_ble_eq_true rfl⟩) hC (fun H locs hC => ?_)
  refine lv_if_eq (tgt := 20) hx hb dX7_why_15 (by decide) (fun h9 => ?_) (fun h9 => ?_)
  · have hf := zif_t hf h9
    refine lv_aload_n hx hb dX7_why_20 rfl (lv_at hl 0 rfl) ?_
    refine lv_iload_n hx hb dX7_why_21 rfl (lv_at hl 1 rfl) ?_
    refine lv_iload_n hx hb dX7_why_22 rfl (lv_at hl 2 rfl) ?_
    refine lv_iload_n hx hb dX7_why_23 rfl (lv_at hl 3 rfl) ?_
    obtain ⟨x8, hc7, hf⟩ := zb_inv hf
    refine z_ci (z_rV (As := [.int p1, .int p2, .int p3]) (rest := []) ⟨hx, hb, hml, hown, hts⟩ (c_X7_against (l := l) (D := D) (cy := cy) (base := base) (st := st) (K := K) (L := L) (c := c) (r := r6) (o := o) (z := z) th p1 p2 p3 hk_th hc7) (cwV 3 hts gX7_why_X7_against rfl rfl rfl (by decide +kernel) ⟨Nat.le_of_ble_eq_true rfl, Nat.le_of_ble_eq_true rfl⟩) hG hC (zC.recv (ci := 7) (fs := _) hK hC (by rw [hk_th]; decide) (by rw [hk_th]; exact zc_7 cy _ _) rfl) rfl hl.1 rfl (lv_room (Nat.le_of_ble_eq_true rfl)) dX7_why_24 ⟨Nat.le_of_ble_eq_true rfl, Nat.le_of_ble_eq_true rfl⟩) hC (fun H locs hC => ?_)
    exact z_iretM hx hb hr hlocks hC hf dX7_why_27
  · have hf := zif_f hf h9
    refine lv_iconst (v := 0) hx hb dX7_why_18 (by decide) ?_
    exact z_iretM hx hb hr hlocks hC hf dX7_why_19
def f_X7_takes_49 (K : Nat → Nat) (z : Nat) (th : Nat) (p1 : Int32) (rec39 : (zS → Int32 → Option zS)) : Nat → zS → Int32 → Int32 → Option zS
  | 0, _, _, _ => none
  | n + 1, rA, v2, v3 =>
    zn K (zr rA 27 th 0) 127 fun a1 => zx v2 200 <| (if (zi rA 127 a1 (Int32.toNatClampNeg v2)) = 0 then zlet (v2 + 1) fun x2 => rec39 rA x2 else (if v2 = p1 then zlet (v2 + 1) fun x3 => rec39 rA x3 else zn K (zr rA 10 th 0) 110 fun a4 => zx v2 200 <| (if (zi rA 110 a4 (Int32.toNatClampNeg v2)) ≤ v3 then zlet (v2 + 1) fun x5 => rec39 rA x5 else zn K (zr rA 45 th 0) 145 fun a6 => zn K (zr rA 28 th 0) 128 fun a7 => zx v2 200 <| zn K (zr rA 29 th 0) 129 fun a8 => zx v2 200 <| zx (((200 * (zi rA 128 a7 (Int32.toNatClampNeg v2))) + (zi rA 129 a8 (Int32.toNatClampNeg v2))) + v3) 8000 <| zlet (zui rA 145 a6 (Int32.toNatClampNeg (((200 * (zi rA 128 a7 (Int32.toNatClampNeg v2))) + (zi rA 129 a8 (Int32.toNatClampNeg v2))) + v3)) 1) fun r9 => zlet (v3 + 1) fun x10 => f_X7_takes_49 K z th p1 rec39 n r9 v2 x10)))
def f_X7_takes_39 (K : Nat → Nat) (z : Nat) (th : Nat) (p1 : Int32) : Nat → zS → Int32 → Option zS
  | 0, _, _ => none
  | n + 1, rA, v2 =>
    (if (zi rA 35 th 0) ≤ v2 then some rA else f_X7_takes_49 K z th p1 (f_X7_takes_39 K z th p1 n) z rA v2 0)
def f_X7_takes_2 (K : Nat → Nat) (z : Nat) (th : Nat) (p1 : Int32) : Nat → zS → Int32 → Option zS
  | 0, _, _ => none
  | n + 1, rA, v2 =>
    (if 8000 ≤ v2 then f_X7_takes_39 K z th p1 z rA 0 else zn K (zr rA 45 th 0) 145 fun a15 => zn K (zr rA 2 th 0) 102 fun a16 => zx v2 8000 <| (if ((zi rA 102 a16 (Int32.toNatClampNeg v2)) &&& 3) = 0 then zx v2 8000 <| zlet (zui rA 145 a15 (Int32.toNatClampNeg v2) 0) fun r17 => zlet (v2 + 1) fun x18 => f_X7_takes_2 K z th p1 n r17 x18 else zx v2 8000 <| zlet (zui rA 145 a15 (Int32.toNatClampNeg v2) 1) fun r19 => zlet (v2 + 1) fun x20 => f_X7_takes_2 K z th p1 n r19 x20))
def f_X7_takes (K : Nat → Nat) (z : Nat) (r : zS) (th : Nat) (p1 : Int32) : Option zS :=
  f_X7_takes_2 K z th p1 z r 0
set_option maxRecDepth 100000 in
set_option maxHeartbeats 4000000 in
theorem c_X7_takes {l : Launch} {D : va_G} {cy : Nat → ClassId} {base : Nat} {st : Nat → Nat} {K : Nat → Nat} {L : List Nat} {c r : zS} {o : Int64} {z : Nat} (th : Nat) (p1 : Int32) {rf : zS}  (hk_th : K th = 7) (hf : f_X7_takes K z r th p1 = some rf) : Met l yX7_takes wsX7_takes ({ frames := 0, cells := 0, slots := 0, locals := 0 }) (va_Pc [.ref th, .int p1] (zGW zts0 zns0 D cy base st K L (c, r, o))) (va_Qv (fun (_ : Unit) => True) (fun _ => zB D cy base K L (c, rf, o)) (zA base)) 0 0 (zA base) := by
  refine Met.ofW (cc := cX7_takes) (maxL := 4) (ret := none) (by decide) rfl ?_
  intro p e s m args below meth cd s₁ B hml hv
  obtain ⟨rfl, hG⟩ := hv
  have hx := B.exec
  have hb := B.bytes
  have hr := B.returns
  have hts := atoms_spec (ws := wsX7_takes) B.pre
  have hown : s.vm.findClass RX7 = some m.cls := findClass_of_methodNamed B.named
  have hlocks := B.notSynchronized
  have hC := hG.enter
  have hK := hG.2.2.2.1
  have hi7 : ∀ w ∈ wsX70, w ∈ wsX7_takes := by decide +kernel
  have w0 := hts (.fieldLink RX7 131 "MarketSquareModel" "traders" "I") (by decide +kernel)
  have w1 := hts (.fieldLink RX7 87 "MarketSquareModel" "stands" "[Z") (by decide +kernel)
  have w2 := hts (.fieldLink RX7 36 "MarketSquareModel" "front" "[I") (by decide +kernel)
  have w3 := hts (.fieldLink RX7 112 "MarketSquareModel" "taken" "[Z") (by decide +kernel)
  have w4 := hts (.fieldLink RX7 90 "MarketSquareModel" "stallRow" "[I") (by decide +kernel)
  have w5 := hts (.fieldLink RX7 93 "MarketSquareModel" "stallPlace" "[I") (by decide +kernel)
  have w6 := hts (.fieldLink RX7 13 "MarketSquareModel" "marks" "[B") (by decide +kernel)
  have hl := lv_entry ([.ref th, .int p1]) (n := 4) (Nat.le_of_ble_eq_true rfl)
  rw [lg_entry_eq]
  generalize (lg_sl ([.ref th, .int p1]) ++ List.replicate (4 - (lg_sl ([.ref th, .int p1])).length) Slot.unset).toArray = ls at hl ⊢
  have hl : lv_has ls 4 [(0, .ref th), (1, .int p1)] := hl
  have L39 : ∀ (n39 : Nat) (rA : zS) (H : Heap) (locs : List Loc) (ls : Array Slot) (v2 : Int32), zC D cy base K L (c, rA, o) s.heap H locs → lv_has ls 4 [(0, .ref th), (1, .int p1), (2, .int v2)] → f_X7_takes_39 K z th p1 n39 rA v2 = some rf → W p l e (headSpec wsX7_takes ({ frames := 0, cells := 0, slots := 0, locals := 0 })).room s m ([.ref th, .int p1] : List Value).toArray below meth cd H locs 0 0 (MQ below (va_Qv (fun (_ : Unit) => True) (fun _ => zB D cy base K L (c, rf, o)) (zA base)) ([.ref th, .int p1] : List Value).toArray s 0 0 (zA base)) (F0 m 39 ls []) := by
    intro n39
    induction n39 with
    | zero => intro rA H locs ls v2 hC hl hf; rw [f_X7_takes_39] at hf; cases hf
    | succ n39 ih39 =>
      intro rA H locs ls v2 hC hl hf
      rw [f_X7_takes_39] at hf
      have L49 : ∀ (n49 : Nat) (rA : zS) (H : Heap) (locs : List Loc) (ls : Array Slot) (v2 : Int32) (v3 : Int32), zC D cy base K L (c, rA, o) s.heap H locs → lv_has ls 4 [(0, .ref th), (1, .int p1), (2, .int v2), (3, .int v3)] → f_X7_takes_49 K z th p1 (f_X7_takes_39 K z th p1 n39) n49 rA v2 v3 = some rf → W p l e (headSpec wsX7_takes ({ frames := 0, cells := 0, slots := 0, locals := 0 })).room s m ([.ref th, .int p1] : List Value).toArray below meth cd H locs 0 0 (MQ below (va_Qv (fun (_ : Unit) => True) (fun _ => zB D cy base K L (c, rf, o)) (zA base)) ([.ref th, .int p1] : List Value).toArray s 0 0 (zA base)) (F0 m 49 ls []) := by
        intro n49
        induction n49 with
        | zero => intro rA H locs ls v2 v3 hC hl hf; rw [f_X7_takes_49] at hf; cases hf
        | succ n49 ih49 =>
          intro rA H locs ls v2 v3 hC hl hf
          rw [f_X7_takes_49] at hf
          refine lv_aload_n hx hb dX7_takes_49 rfl (lv_at hl 0 rfl) ?_
          refine zg_7_27 hx hb hts hi7 hown hK hC hk_th w1 dX7_takes_50 ?_
          obtain ⟨a1, ea1, hk_a1, hf⟩ := zn_inv hf
          refine z_ref ea1 ?_
          refine lv_iload_n hx hb dX7_takes_53 rfl (lv_at hl 2 rfl) ?_
          obtain ⟨hix, hf⟩ := zx_inv hf
          refine xg_127 hx hb hK hC hk_a1 hix dX7_takes_54 ?_
          refine lv_if_eq (tgt := 104) hx hb dX7_takes_55 (by decide) (fun h13 => ?_) (fun h13 => ?_)
          · have hf := zif_t hf h13
            obtain ⟨x2, ex2, hf⟩ := zlet_inv hf
            refine lv_iinc (v := x2) (lv' := [(2, .int x2), (0, .ref th), (1, .int p1), (3, .int v3)]) hx hb dX7_takes_104 hl (k := 2) rfl (by rw [ex2]; rfl) (by decide) rfl (fun ls hl => ?_)
            refine lv_goto (tgt := 39) hx hb dX7_takes_107 (by decide) ?_
            exact ih39 _ _ _ _ x2 hC (lv_sub hl [1, 2, 0] rfl) hf
          · have hf := zif_f hf h13
            refine lv_iload_n hx hb dX7_takes_58 rfl (lv_at hl 2 rfl) ?_
            refine lv_iload_n hx hb dX7_takes_59 rfl (lv_at hl 1 rfl) ?_
            refine lv_icmp_eq (tgt := 104) hx hb dX7_takes_60 (by decide) (fun h12 => ?_) (fun h12 => ?_)
            · have hf := zif_t hf h12
              obtain ⟨x3, ex3, hf⟩ := zlet_inv hf
              refine lv_iinc (v := x3) (lv' := [(2, .int x3), (0, .ref th), (1, .int p1), (3, .int v3)]) hx hb dX7_takes_104 hl (k := 2) rfl (by rw [ex3]; rfl) (by decide) rfl (fun ls hl => ?_)
              refine lv_goto (tgt := 39) hx hb dX7_takes_107 (by decide) ?_
              exact ih39 _ _ _ _ x3 hC (lv_sub hl [1, 2, 0] rfl) hf
            · have hf := zif_f hf h12
              refine lv_iload_n hx hb dX7_takes_63 rfl (lv_at hl 3 rfl) ?_
              refine lv_aload_n hx hb dX7_takes_64 rfl (lv_at hl 0 rfl) ?_
              refine zg_7_10 hx hb hts hi7 hown hK hC hk_th w2 dX7_takes_65 ?_
              obtain ⟨a4, ea4, hk_a4, hf⟩ := zn_inv hf
              refine z_ref ea4 ?_
              refine lv_iload_n hx hb dX7_takes_68 rfl (lv_at hl 2 rfl) ?_
              obtain ⟨hix, hf⟩ := zx_inv hf
              refine xg_110 hx hb hK hC hk_a4 hix dX7_takes_69 ?_
              refine lv_icmp_ge (tgt := 104) hx hb dX7_takes_70 (by decide) (fun h11 => ?_) (fun h11 => ?_)
              · have hf := zif_t hf h11
                obtain ⟨x5, ex5, hf⟩ := zlet_inv hf
                refine lv_iinc (v := x5) (lv' := [(2, .int x5), (0, .ref th), (1, .int p1), (3, .int v3)]) hx hb dX7_takes_104 hl (k := 2) rfl (by rw [ex5]; rfl) (by decide) rfl (fun ls hl => ?_)
                refine lv_goto (tgt := 39) hx hb dX7_takes_107 (by decide) ?_
                exact ih39 _ _ _ _ x5 hC (lv_sub hl [1, 2, 0] rfl) hf
              · have hf := zif_f hf h11
                refine lv_aload_n hx hb dX7_takes_73 rfl (lv_at hl 0 rfl) ?_
                refine zg_7_45 hx hb hts hi7 hown hK hC hk_th w3 dX7_takes_74 ?_
                obtain ⟨a6, ea6, hk_a6, hf⟩ := zn_inv hf
                refine z_ref ea6 ?_
                refine lv_sipush (v := 200) hx hb dX7_takes_77 (by decide) ?_
                refine lv_aload_n hx hb dX7_takes_80 rfl (lv_at hl 0 rfl) ?_
                refine zg_7_28 hx hb hts hi7 hown hK hC hk_th w4 dX7_takes_81 ?_
                obtain ⟨a7, ea7, hk_a7, hf⟩ := zn_inv hf
                refine z_ref ea7 ?_
                refine lv_iload_n hx hb dX7_takes_84 rfl (lv_at hl 2 rfl) ?_
                obtain ⟨hix, hf⟩ := zx_inv hf
                refine xg_128 hx hb hK hC hk_a7 hix dX7_takes_85 ?_
                refine lv_imul hx hb dX7_takes_86 ?_
                refine lv_aload_n hx hb dX7_takes_87 rfl (lv_at hl 0 rfl) ?_
                refine zg_7_29 hx hb hts hi7 hown hK hC hk_th w5 dX7_takes_88 ?_
                obtain ⟨a8, ea8, hk_a8, hf⟩ := zn_inv hf
                refine z_ref ea8 ?_
                refine lv_iload_n hx hb dX7_takes_91 rfl (lv_at hl 2 rfl) ?_
                obtain ⟨hix, hf⟩ := zx_inv hf
                refine xg_129 hx hb hK hC hk_a8 hix dX7_takes_92 ?_
                refine lv_iadd hx hb dX7_takes_93 ?_
                refine lv_iload_n hx hb dX7_takes_94 rfl (lv_at hl 3 rfl) ?_
                refine lv_iadd hx hb dX7_takes_95 ?_
                refine lv_iconst (v := 1) hx hb dX7_takes_96 (by decide) ?_
                obtain ⟨hix, hf⟩ := zx_inv hf
                obtain ⟨r9, er9, hf⟩ := zlet_inv hf
                refine xp_145 hx hb hK hC hk_a6 hix (Or.inr rfl) er9 dX7_takes_97 (fun H locs hC => ?_)
                obtain ⟨x10, ex10, hf⟩ := zlet_inv hf
                refine lv_iinc (v := x10) (lv' := [(3, .int x10), (0, .ref th), (1, .int p1), (2, .int v2)]) hx hb dX7_takes_98 hl (k := 3) rfl (by rw [ex10]; rfl) (by decide) rfl (fun ls hl => ?_)
                refine lv_goto (tgt := 49) hx hb dX7_takes_101 (by decide) ?_
                exact ih49 _ _ _ _ v2 x10 hC (lv_sub hl [1, 2, 3, 0] rfl) hf
      refine lv_iload_n hx hb dX7_takes_39 rfl (lv_at hl 2 rfl) ?_
      refine lv_aload_n hx hb dX7_takes_40 rfl (lv_at hl 0 rfl) ?_
      refine zg_7_35 hx hb hts hi7 hown hK hC hk_th w0 dX7_takes_41 ?_
      refine lv_icmp_ge (tgt := 110) hx hb dX7_takes_44 (by decide) (fun h14 => ?_) (fun h14 => ?_)
      · have hf := zif_t hf h14
        exact z_vretM hx hb hr hlocks hC hf dX7_takes_110
      · have hf := zif_f hf h14
        refine lv_iconst (v := 0) hx hb dX7_takes_47 (by decide) ?_
        refine lv_istore_n (lv' := [(3, .int 0), (0, .ref th), (1, .int p1), (2, .int v2)]) hx hb dX7_takes_48 rfl hl (by decide) rfl (fun ls hl => ?_)
        exact L49 z _ _ _ _ v2 0 hC (lv_sub hl [1, 2, 3, 0] rfl) hf
  have L2 : ∀ (n2 : Nat) (rA : zS) (H : Heap) (locs : List Loc) (ls : Array Slot) (v2 : Int32), zC D cy base K L (c, rA, o) s.heap H locs → lv_has ls 4 [(0, .ref th), (1, .int p1), (2, .int v2)] → f_X7_takes_2 K z th p1 n2 rA v2 = some rf → W p l e (headSpec wsX7_takes ({ frames := 0, cells := 0, slots := 0, locals := 0 })).room s m ([.ref th, .int p1] : List Value).toArray below meth cd H locs 0 0 (MQ below (va_Qv (fun (_ : Unit) => True) (fun _ => zB D cy base K L (c, rf, o)) (zA base)) ([.ref th, .int p1] : List Value).toArray s 0 0 (zA base)) (F0 m 2 ls []) := by
    intro n2
    induction n2 with
    | zero => intro rA H locs ls v2 hC hl hf; rw [f_X7_takes_2] at hf; cases hf
    | succ n2 ih2 =>
      intro rA H locs ls v2 hC hl hf
      rw [f_X7_takes_2] at hf
      refine lv_iload_n hx hb dX7_takes_2 rfl (lv_at hl 2 rfl) ?_
      refine lv_sipush (v := 8000) hx hb dX7_takes_3 (by decide) ?_
      refine lv_icmp_ge (tgt := 37) hx hb dX7_takes_6 (by decide) (fun h22 => ?_) (fun h22 => ?_)
      · have hf := zif_t hf h22
        refine lv_iconst (v := 0) hx hb dX7_takes_37 (by decide) ?_
        refine lv_istore_n (lv' := [(2, .int 0), (0, .ref th), (1, .int p1)]) hx hb dX7_takes_38 rfl hl (by decide) rfl (fun ls hl => ?_)
        exact L39 z _ _ _ _ 0 hC (lv_sub hl [1, 2, 0] rfl) hf
      · have hf := zif_f hf h22
        refine lv_aload_n hx hb dX7_takes_9 rfl (lv_at hl 0 rfl) ?_
        refine zg_7_45 hx hb hts hi7 hown hK hC hk_th w3 dX7_takes_10 ?_
        obtain ⟨a15, ea15, hk_a15, hf⟩ := zn_inv hf
        refine z_ref ea15 ?_
        refine lv_iload_n hx hb dX7_takes_13 rfl (lv_at hl 2 rfl) ?_
        refine lv_aload_n hx hb dX7_takes_14 rfl (lv_at hl 0 rfl) ?_
        refine zg_7_2 hx hb hts hi7 hown hK hC hk_th w6 dX7_takes_15 ?_
        obtain ⟨a16, ea16, hk_a16, hf⟩ := zn_inv hf
        refine z_ref ea16 ?_
        refine lv_iload_n hx hb dX7_takes_18 rfl (lv_at hl 2 rfl) ?_
        obtain ⟨hix, hf⟩ := zx_inv hf
        refine xg_102 hx hb hK hC hk_a16 hix dX7_takes_19 ?_
        refine lv_iconst (v := 3) hx hb dX7_takes_20 (by decide) ?_
        refine lv_iand hx hb dX7_takes_21 ?_
        refine lv_if_eq (tgt := 29) hx hb dX7_takes_22 (by decide) (fun h21 => ?_) (fun h21 => ?_)
        · have hf := zif_t hf h21
          refine lv_iconst (v := 0) hx hb dX7_takes_29 (by decide) ?_
          obtain ⟨hix, hf⟩ := zx_inv hf
          obtain ⟨r17, er17, hf⟩ := zlet_inv hf
          refine xp_145 hx hb hK hC hk_a15 hix (Or.inl rfl) er17 dX7_takes_30 (fun H locs hC => ?_)
          obtain ⟨x18, ex18, hf⟩ := zlet_inv hf
          refine lv_iinc (v := x18) (lv' := [(2, .int x18), (0, .ref th), (1, .int p1)]) hx hb dX7_takes_31 hl (k := 2) rfl (by rw [ex18]; rfl) (by decide) rfl (fun ls hl => ?_)
          refine lv_goto (tgt := 2) hx hb dX7_takes_34 (by decide) ?_
          exact ih2 _ _ _ _ x18 hC (lv_sub hl [1, 2, 0] rfl) hf
        · have hf := zif_f hf h21
          refine lv_iconst (v := 1) hx hb dX7_takes_25 (by decide) ?_
          refine lv_goto (tgt := 30) hx hb dX7_takes_26 (by decide) ?_
          obtain ⟨hix, hf⟩ := zx_inv hf
          obtain ⟨r19, er19, hf⟩ := zlet_inv hf
          refine xp_145 hx hb hK hC hk_a15 hix (Or.inr rfl) er19 dX7_takes_30 (fun H locs hC => ?_)
          obtain ⟨x20, ex20, hf⟩ := zlet_inv hf
          refine lv_iinc (v := x20) (lv' := [(2, .int x20), (0, .ref th), (1, .int p1)]) hx hb dX7_takes_31 hl (k := 2) rfl (by rw [ex20]; rfl) (by decide) rfl (fun ls hl => ?_)
          refine lv_goto (tgt := 2) hx hb dX7_takes_34 (by decide) ?_
          exact ih2 _ _ _ _ x20 hC (lv_sub hl [1, 2, 0] rfl) hf
  unfold f_X7_takes at hf
  refine lv_iconst (v := 0) hx hb dX7_takes_0 (by decide) ?_
  refine lv_istore_n (lv' := [(2, .int 0), (0, .ref th), (1, .int p1)]) hx hb dX7_takes_1 rfl hl (by decide) rfl (fun ls hl => ?_)
  exact L2 z _ _ _ _ 0 hC (lv_sub hl [1, 2, 0] rfl) hf
def f_X7_goodIn_68 (K : Nat → Nat) (z : Nat) (th : Nat) (p1 : Int32) (p2 : Int32) : Nat → zS → Int32 → Option (Int32 × zS)
  | 0, _, _ => none
  | n + 1, rA, v3 =>
    zn K (zr rA 10 th 0) 110 fun a6 => zx p1 200 <| zn K (zr rA 1 th 0) 101 fun a7 => zx p2 40 <| (if (zi rA 101 a7 (Int32.toNatClampNeg p2)) < (v3 + (zi rA 110 a6 (Int32.toNatClampNeg p1))) then some ((-1), rA) else zn K (zr rA 46 th 0) 146 fun a8 => zx v3 201 <| zx p1 200 <| (if (zi rA 146 a8 (Int32.toNatClampNeg v3)) < (zi rA 110 a6 (Int32.toNatClampNeg p1)) then zlet (v3 + 1) fun x9 => f_X7_goodIn_68 K z th p1 p2 n rA x9 else zb (f_X7_against K z rA th p1 p2 v3) fun x11 => (if x11 = 0 then some (((200 * p2) + v3), rA) else zlet (v3 + 1) fun x12 => f_X7_goodIn_68 K z th p1 p2 n rA x12)))
def f_X7_goodIn_21 (K : Nat → Nat) (z : Nat) (th : Nat) (p1 : Int32) (p2 : Int32) : Nat → zS → Int32 → Option (Int32 × zS)
  | 0, _, _ => none
  | n + 1, rA, v3 =>
    (if v3 < 0 then f_X7_goodIn_68 K z th p1 p2 z rA 0 else zn K (zr rA 46 th 0) 146 fun a16 => zn K (zr rA 45 th 0) 145 fun a17 => zx ((200 * p2) + v3) 8000 <| (if (zi rA 145 a17 (Int32.toNatClampNeg ((200 * p2) + v3))) = 0 then zx (v3 + 1) 201 <| zx v3 201 <| zlet (zui rA 146 a16 (Int32.toNatClampNeg v3) ((zi rA 146 a16 (Int32.toNatClampNeg (v3 + 1))) + 1)) fun r18 => zlet (v3 + (-1)) fun x19 => f_X7_goodIn_21 K z th p1 p2 n r18 x19 else zx v3 201 <| zlet (zui rA 146 a16 (Int32.toNatClampNeg v3) 0) fun r20 => zlet (v3 + (-1)) fun x21 => f_X7_goodIn_21 K z th p1 p2 n r20 x21))
def f_X7_goodIn (K : Nat → Nat) (z : Nat) (r : zS) (th : Nat) (p1 : Int32) (p2 : Int32) : Option (Int32 × zS) :=
  zn K (zr r 46 th 0) 146 fun a1 => zn K (zr r 1 th 0) 101 fun a2 => zx p2 40 <| zx (zi r 101 a2 (Int32.toNatClampNeg p2)) 201 <| zlet (zui r 146 a1 (Int32.toNatClampNeg (zi r 101 a2 (Int32.toNatClampNeg p2))) 0) fun r3 => zn K (zr r3 1 th 0) 101 fun a4 => zx p2 40 <| zlet ((zi r3 101 a4 (Int32.toNatClampNeg p2)) - 1) fun x5 => f_X7_goodIn_21 K z th p1 p2 z r3 x5
set_option maxRecDepth 100000 in
set_option maxHeartbeats 4000000 in
theorem c_X7_goodIn {l : Launch} {D : va_G} {cy : Nat → ClassId} {base : Nat} {st : Nat → Nat} {K : Nat → Nat} {L : List Nat} {c r : zS} {o : Int64} {z : Nat} (th : Nat) (p1 : Int32) (p2 : Int32) {rv : Int32} {rf : zS}  (hk_th : K th = 7) (hf : f_X7_goodIn K z r th p1 p2 = some (rv, rf)) : Met l yX7_goodIn wsX7_goodIn ({ frames := 6, cells := 0, slots := 0, locals := 146 }) (va_Pc [.ref th, .int p1, .int p2] (zGW zts0 zns0 D cy base st K L (c, r, o))) (va_Qi (fun (rr : Int32) (_ : Unit) => rr = rv) (fun _ => zB D cy base K L (c, rf, o)) (zA base)) 0 0 (zA base) := by
  refine Met.ofW (cc := cX7_goodIn) (maxL := 4) (ret := (some .int)) (by decide) rfl ?_
  intro p e s m args below meth cd s₁ B hml hv
  obtain ⟨rfl, hG⟩ := hv
  have hx := B.exec
  have hb := B.bytes
  have hr := B.returns
  have hts := atoms_spec (ws := wsX7_goodIn) B.pre
  have hown : s.vm.findClass RX7 = some m.cls := findClass_of_methodNamed B.named
  have hlocks := B.notSynchronized
  have hC := hG.enter
  have hK := hG.2.2.2.1
  have hi7 : ∀ w ∈ wsX70, w ∈ wsX7_goodIn := by decide +kernel
  have w0 := hts (.fieldLink RX7 115 "MarketSquareModel" "run" "[I") (by decide +kernel)
  have w1 := hts (.fieldLink RX7 9 "MarketSquareModel" "places" "[I") (by decide +kernel)
  have w2 := hts (.fieldLink RX7 36 "MarketSquareModel" "front" "[I") (by decide +kernel)
  have w3 := hts (.fieldLink RX7 112 "MarketSquareModel" "taken" "[Z") (by decide +kernel)
  have hl := lv_entry ([.ref th, .int p1, .int p2]) (n := 4) (Nat.le_of_ble_eq_true rfl)
  rw [lg_entry_eq]
  generalize (lg_sl ([.ref th, .int p1, .int p2]) ++ List.replicate (4 - (lg_sl ([.ref th, .int p1, .int p2])).length) Slot.unset).toArray = ls at hl ⊢
  have hl : lv_has ls 4 [(0, .ref th), (1, .int p1), (2, .int p2)] := hl
  have L68 : ∀ (n68 : Nat) (rA : zS) (H : Heap) (locs : List Loc) (ls : Array Slot) (v3 : Int32), zC D cy base K L (c, rA, o) s.heap H locs → lv_has ls 4 [(0, .ref th), (1, .int p1), (2, .int p2), (3, .int v3)] → f_X7_goodIn_68 K z th p1 p2 n68 rA v3 = some (rv, rf) → W p l e (headSpec wsX7_goodIn ({ frames := 6, cells := 0, slots := 0, locals := 146 })).room s m ([.ref th, .int p1, .int p2] : List Value).toArray below meth cd H locs 0 0 (MQ below (va_Qi (fun (rr : Int32) (_ : Unit) => rr = rv) (fun _ => zB D cy base K L (c, rf, o)) (zA base)) ([.ref th, .int p1, .int p2] : List Value).toArray s 0 0 (zA base)) (F0 m 68 ls []) := by
    intro n68
    induction n68 with
    | zero => intro rA H locs ls v3 hC hl hf; rw [f_X7_goodIn_68] at hf; cases hf
    | succ n68 ih68 =>
      intro rA H locs ls v3 hC hl hf
      rw [f_X7_goodIn_68] at hf
      refine lv_iload_n hx hb dX7_goodIn_68 rfl (lv_at hl 3 rfl) ?_
      refine lv_aload_n hx hb dX7_goodIn_69 rfl (lv_at hl 0 rfl) ?_
      refine zg_7_10 hx hb hts hi7 hown hK hC hk_th w2 dX7_goodIn_70 ?_
      obtain ⟨a6, ea6, hk_a6, hf⟩ := zn_inv hf
      refine z_ref ea6 ?_
      refine lv_iload_n hx hb dX7_goodIn_73 rfl (lv_at hl 1 rfl) ?_
      obtain ⟨hix, hf⟩ := zx_inv hf
      refine xg_110 hx hb hK hC hk_a6 hix dX7_goodIn_74 ?_
      refine lv_iadd hx hb dX7_goodIn_75 ?_
      refine lv_aload_n hx hb dX7_goodIn_76 rfl (lv_at hl 0 rfl) ?_
      refine zg_7_1 hx hb hts hi7 hown hK hC hk_th w1 dX7_goodIn_77 ?_
      obtain ⟨a7, ea7, hk_a7, hf⟩ := zn_inv hf
      refine z_ref ea7 ?_
      refine lv_iload_n hx hb dX7_goodIn_80 rfl (lv_at hl 2 rfl) ?_
      obtain ⟨hix, hf⟩ := zx_inv hf
      refine xg_101 hx hb hK hC hk_a7 hix dX7_goodIn_81 ?_
      refine lv_icmp_gt (tgt := 124) hx hb dX7_goodIn_82 (by decide) (fun h15 => ?_) (fun h15 => ?_)
      · have hf := zif_t hf h15
        refine lv_iconst (v := (-1)) hx hb dX7_goodIn_124 (by decide) ?_
        exact z_iretM hx hb hr hlocks hC hf dX7_goodIn_125
      · have hf := zif_f hf h15
        refine lv_aload_n hx hb dX7_goodIn_85 rfl (lv_at hl 0 rfl) ?_
        refine zg_7_46 hx hb hts hi7 hown hK hC hk_th w0 dX7_goodIn_86 ?_
        obtain ⟨a8, ea8, hk_a8, hf⟩ := zn_inv hf
        refine z_ref ea8 ?_
        refine lv_iload_n hx hb dX7_goodIn_89 rfl (lv_at hl 3 rfl) ?_
        obtain ⟨hix, hf⟩ := zx_inv hf
        refine xg_146 hx hb hK hC hk_a8 hix dX7_goodIn_90 ?_
        refine lv_aload_n hx hb dX7_goodIn_91 rfl (lv_at hl 0 rfl) ?_
        refine zg_7_10 hx hb hts hi7 hown hK hC hk_th w2 dX7_goodIn_92 ?_
        refine z_ref ea6 ?_
        refine lv_iload_n hx hb dX7_goodIn_95 rfl (lv_at hl 1 rfl) ?_
        obtain ⟨hix, hf⟩ := zx_inv hf
        refine xg_110 hx hb hK hC hk_a6 hix dX7_goodIn_96 ?_
        refine lv_icmp_lt (tgt := 118) hx hb dX7_goodIn_97 (by decide) (fun h14 => ?_) (fun h14 => ?_)
        · have hf := zif_t hf h14
          obtain ⟨x9, ex9, hf⟩ := zlet_inv hf
          refine lv_iinc (v := x9) (lv' := [(3, .int x9), (0, .ref th), (1, .int p1), (2, .int p2)]) hx hb dX7_goodIn_118 hl (k := 3) rfl (by rw [ex9]; rfl) (by decide) rfl (fun ls hl => ?_)
          refine lv_goto (tgt := 68) hx hb dX7_goodIn_121 (by decide) ?_
          exact ih68 _ _ _ _ x9 hC (lv_sub hl [1, 2, 3, 0] rfl) hf
        · have hf := zif_f hf h14
          refine lv_aload_n hx hb dX7_goodIn_100 rfl (lv_at hl 0 rfl) ?_
          refine lv_iload_n hx hb dX7_goodIn_101 rfl (lv_at hl 1 rfl) ?_
          refine lv_iload_n hx hb dX7_goodIn_102 rfl (lv_at hl 2 rfl) ?_
          refine lv_iload_n hx hb dX7_goodIn_103 rfl (lv_at hl 3 rfl) ?_
          obtain ⟨x11, hc10, hf⟩ := zb_inv hf
          refine z_ci (z_rV (As := [.int p1, .int p2, .int v3]) (rest := []) ⟨hx, hb, hml, hown, hts⟩ (c_X7_against (l := l) (D := D) (cy := cy) (base := base) (st := st) (K := K) (L := L) (c := c) (r := rA) (o := o) (z := z) th p1 p2 v3 hk_th hc10) (cwV 3 hts gX7_goodIn_X7_against rfl rfl rfl (by decide +kernel) ⟨Nat.le_of_ble_eq_true rfl, Nat.le_of_ble_eq_true rfl⟩) hG hC (zC.recv (ci := 7) (fs := _) hK hC (by rw [hk_th]; decide) (by rw [hk_th]; exact zc_7 cy _ _) rfl) rfl hl.1 rfl (lv_room (Nat.le_of_ble_eq_true rfl)) dX7_goodIn_104 ⟨Nat.le_of_ble_eq_true rfl, Nat.le_of_ble_eq_true rfl⟩) hC (fun H locs hC => ?_)
          refine lv_if_ne (tgt := 118) hx hb dX7_goodIn_107 (by decide) (fun h13 => ?_) (fun h13 => ?_)
          · have hf := zif_f hf h13
            obtain ⟨x12, ex12, hf⟩ := zlet_inv hf
            refine lv_iinc (v := x12) (lv' := [(3, .int x12), (0, .ref th), (1, .int p1), (2, .int p2)]) hx hb dX7_goodIn_118 hl (k := 3) rfl (by rw [ex12]; rfl) (by decide) rfl (fun ls hl => ?_)
            refine lv_goto (tgt := 68) hx hb dX7_goodIn_121 (by decide) ?_
            exact ih68 _ _ _ _ x12 hC (lv_sub hl [1, 2, 3, 0] rfl) hf
          · have hf := zif_t hf h13
            refine lv_sipush (v := 200) hx hb dX7_goodIn_110 (by decide) ?_
            refine lv_iload_n hx hb dX7_goodIn_113 rfl (lv_at hl 2 rfl) ?_
            refine lv_imul hx hb dX7_goodIn_114 ?_
            refine lv_iload_n hx hb dX7_goodIn_115 rfl (lv_at hl 3 rfl) ?_
            refine lv_iadd hx hb dX7_goodIn_116 ?_
            exact z_iretM hx hb hr hlocks hC hf dX7_goodIn_117
  have L21 : ∀ (n21 : Nat) (rA : zS) (H : Heap) (locs : List Loc) (ls : Array Slot) (v3 : Int32), zC D cy base K L (c, rA, o) s.heap H locs → lv_has ls 4 [(0, .ref th), (1, .int p1), (2, .int p2), (3, .int v3)] → f_X7_goodIn_21 K z th p1 p2 n21 rA v3 = some (rv, rf) → W p l e (headSpec wsX7_goodIn ({ frames := 6, cells := 0, slots := 0, locals := 146 })).room s m ([.ref th, .int p1, .int p2] : List Value).toArray below meth cd H locs 0 0 (MQ below (va_Qi (fun (rr : Int32) (_ : Unit) => rr = rv) (fun _ => zB D cy base K L (c, rf, o)) (zA base)) ([.ref th, .int p1, .int p2] : List Value).toArray s 0 0 (zA base)) (F0 m 21 ls []) := by
    intro n21
    induction n21 with
    | zero => intro rA H locs ls v3 hC hl hf; rw [f_X7_goodIn_21] at hf; cases hf
    | succ n21 ih21 =>
      intro rA H locs ls v3 hC hl hf
      rw [f_X7_goodIn_21] at hf
      refine lv_iload_n hx hb dX7_goodIn_21 rfl (lv_at hl 3 rfl) ?_
      refine lv_if_lt (tgt := 66) hx hb dX7_goodIn_22 (by decide) (fun h23 => ?_) (fun h23 => ?_)
      · have hf := zif_t hf h23
        refine lv_iconst (v := 0) hx hb dX7_goodIn_66 (by decide) ?_
        refine lv_istore_n (lv' := [(3, .int 0), (0, .ref th), (1, .int p1), (2, .int p2)]) hx hb dX7_goodIn_67 rfl hl (by decide) rfl (fun ls hl => ?_)
        exact L68 z _ _ _ _ 0 hC (lv_sub hl [1, 2, 3, 0] rfl) hf
      · have hf := zif_f hf h23
        refine lv_aload_n hx hb dX7_goodIn_25 rfl (lv_at hl 0 rfl) ?_
        refine zg_7_46 hx hb hts hi7 hown hK hC hk_th w0 dX7_goodIn_26 ?_
        obtain ⟨a16, ea16, hk_a16, hf⟩ := zn_inv hf
        refine z_ref ea16 ?_
        refine lv_iload_n hx hb dX7_goodIn_29 rfl (lv_at hl 3 rfl) ?_
        refine lv_aload_n hx hb dX7_goodIn_30 rfl (lv_at hl 0 rfl) ?_
        refine zg_7_45 hx hb hts hi7 hown hK hC hk_th w3 dX7_goodIn_31 ?_
        obtain ⟨a17, ea17, hk_a17, hf⟩ := zn_inv hf
        refine z_ref ea17 ?_
        refine lv_sipush (v := 200) hx hb dX7_goodIn_34 (by decide) ?_
        refine lv_iload_n hx hb dX7_goodIn_37 rfl (lv_at hl 2 rfl) ?_
        refine lv_imul hx hb dX7_goodIn_38 ?_
        refine lv_iload_n hx hb dX7_goodIn_39 rfl (lv_at hl 3 rfl) ?_
        refine lv_iadd hx hb dX7_goodIn_40 ?_
        obtain ⟨hix, hf⟩ := zx_inv hf
        refine xg_145 hx hb hK hC hk_a17 hix dX7_goodIn_41 ?_
        refine lv_if_eq (tgt := 49) hx hb dX7_goodIn_42 (by decide) (fun h22 => ?_) (fun h22 => ?_)
        · have hf := zif_t hf h22
          refine lv_aload_n hx hb dX7_goodIn_49 rfl (lv_at hl 0 rfl) ?_
          refine zg_7_46 hx hb hts hi7 hown hK hC hk_th w0 dX7_goodIn_50 ?_
          refine z_ref ea16 ?_
          refine lv_iload_n hx hb dX7_goodIn_53 rfl (lv_at hl 3 rfl) ?_
          refine lv_iconst (v := 1) hx hb dX7_goodIn_54 (by decide) ?_
          refine lv_iadd hx hb dX7_goodIn_55 ?_
          obtain ⟨hix, hf⟩ := zx_inv hf
          refine xg_146 hx hb hK hC hk_a16 hix dX7_goodIn_56 ?_
          refine lv_iconst (v := 1) hx hb dX7_goodIn_57 (by decide) ?_
          refine lv_iadd hx hb dX7_goodIn_58 ?_
          obtain ⟨hix, hf⟩ := zx_inv hf
          obtain ⟨r18, er18, hf⟩ := zlet_inv hf
          refine xp_146 hx hb hK hC hk_a16 hix er18 dX7_goodIn_59 (fun H locs hC => ?_)
          obtain ⟨x19, ex19, hf⟩ := zlet_inv hf
          refine lv_iinc (v := x19) (lv' := [(3, .int x19), (0, .ref th), (1, .int p1), (2, .int p2)]) hx hb dX7_goodIn_60 hl (k := 3) rfl (by rw [ex19]; rfl) (by decide) rfl (fun ls hl => ?_)
          refine lv_goto (tgt := 21) hx hb dX7_goodIn_63 (by decide) ?_
          exact ih21 _ _ _ _ x19 hC (lv_sub hl [1, 2, 3, 0] rfl) hf
        · have hf := zif_f hf h22
          refine lv_iconst (v := 0) hx hb dX7_goodIn_45 (by decide) ?_
          refine lv_goto (tgt := 59) hx hb dX7_goodIn_46 (by decide) ?_
          obtain ⟨hix, hf⟩ := zx_inv hf
          obtain ⟨r20, er20, hf⟩ := zlet_inv hf
          refine xp_146 hx hb hK hC hk_a16 hix er20 dX7_goodIn_59 (fun H locs hC => ?_)
          obtain ⟨x21, ex21, hf⟩ := zlet_inv hf
          refine lv_iinc (v := x21) (lv' := [(3, .int x21), (0, .ref th), (1, .int p1), (2, .int p2)]) hx hb dX7_goodIn_60 hl (k := 3) rfl (by rw [ex21]; rfl) (by decide) rfl (fun ls hl => ?_)
          refine lv_goto (tgt := 21) hx hb dX7_goodIn_63 (by decide) ?_
          exact ih21 _ _ _ _ x21 hC (lv_sub hl [1, 2, 3, 0] rfl) hf
  unfold f_X7_goodIn at hf
  refine lv_aload_n hx hb dX7_goodIn_0 rfl (lv_at hl 0 rfl) ?_
  refine zg_7_46 hx hb hts hi7 hown hK hC hk_th w0 dX7_goodIn_1 ?_
  obtain ⟨a1, ea1, hk_a1, hf⟩ := zn_inv hf
  refine z_ref ea1 ?_
  refine lv_aload_n hx hb dX7_goodIn_4 rfl (lv_at hl 0 rfl) ?_
  refine zg_7_1 hx hb hts hi7 hown hK hC hk_th w1 dX7_goodIn_5 ?_
  obtain ⟨a2, ea2, hk_a2, hf⟩ := zn_inv hf
  refine z_ref ea2 ?_
  refine lv_iload_n hx hb dX7_goodIn_8 rfl (lv_at hl 2 rfl) ?_
  obtain ⟨hix, hf⟩ := zx_inv hf
  refine xg_101 hx hb hK hC hk_a2 hix dX7_goodIn_9 ?_
  refine lv_iconst (v := 0) hx hb dX7_goodIn_10 (by decide) ?_
  obtain ⟨hix, hf⟩ := zx_inv hf
  obtain ⟨r3, er3, hf⟩ := zlet_inv hf
  refine xp_146 hx hb hK hC hk_a1 hix er3 dX7_goodIn_11 (fun H locs hC => ?_)
  refine lv_aload_n hx hb dX7_goodIn_12 rfl (lv_at hl 0 rfl) ?_
  refine zg_7_1 hx hb hts hi7 hown hK hC hk_th w1 dX7_goodIn_13 ?_
  obtain ⟨a4, ea4, hk_a4, hf⟩ := zn_inv hf
  refine z_ref ea4 ?_
  refine lv_iload_n hx hb dX7_goodIn_16 rfl (lv_at hl 2 rfl) ?_
  obtain ⟨hix, hf⟩ := zx_inv hf
  refine xg_101 hx hb hK hC hk_a4 hix dX7_goodIn_17 ?_
  refine lv_iconst (v := 1) hx hb dX7_goodIn_18 (by decide) ?_
  refine lv_isub hx hb dX7_goodIn_19 ?_
  obtain ⟨x5, ex5, hf⟩ := zlet_inv hf
  refine z_name ex5 ?_
  refine lv_istore_n (lv' := [(3, .int x5), (0, .ref th), (1, .int p1), (2, .int p2)]) hx hb dX7_goodIn_20 rfl hl (by decide) rfl (fun ls hl => ?_)
  exact L21 z _ _ _ _ x5 hC (lv_sub hl [1, 2, 3, 0] rfl) hf
def f_X7_goodSpot_111 (K : Nat → Nat) (z : Nat) (th : Nat) (p1 : Int32) : Nat → zS → Int32 → Int32 → Option (Int32 × zS)
  | 0, _, _, _ => none
  | n + 1, rA, v2, v3 =>
    (if 40 ≤ v3 then some (v2, rA) else (if 0 ≤ v2 then some (v2, rA) else zb2 (f_X7_goodIn K z rA th p1 v3) fun x13 r14 => zlet (v3 + 1) fun x15 => f_X7_goodSpot_111 K z th p1 n r14 x13 x15))
def f_X7_goodSpot_2 (K : Nat → Nat) (z : Nat) (th : Nat) (p1 : Int32) : Nat → zS → Int32 → Option (Int32 × zS)
  | 0, _, _ => none
  | n + 1, rA, v2 =>
    zn K (zr rA 18 th 0) 118 fun a1 => zx p1 200 <| (if (zi rA 118 a1 (Int32.toNatClampNeg p1)) ≤ v2 then zn K (zr rA 19 th 0) 119 fun a2 => zx p1 200 <| (if (zi rA 119 a2 (Int32.toNatClampNeg p1)) = 0 then some ((-1), rA) else zb (f_X7_isFull K z rA th p1) fun x4 => (if x4 = 0 then zb (f_X7_isOutOfMonth K z rA th p1) fun x6 => (if x6 = 0 then zb (f_X7_anyStops K z rA th p1 0 0 10) fun x8 => (if x8 = 0 then zb (f_X7_takes K z rA th p1) fun r11 => f_X7_goodSpot_111 K z th p1 z r11 (-1) 0 else some ((-1), rA)) else some ((-1), rA)) else some ((-1), rA))) else zlet ((12 * p1) + v2) fun x22 => zn K (zr rA 16 th 0) 116 fun a23 => zx x22 2400 <| zn K (zr rA 17 th 0) 117 fun a24 => zx x22 2400 <| zb (f_X7_against K z rA th p1 (zi rA 116 a23 (Int32.toNatClampNeg x22)) (zi rA 117 a24 (Int32.toNatClampNeg x22))) fun x26 => (if x26 = 0 then zx x22 2400 <| zx x22 2400 <| some (((200 * (zi rA 116 a23 (Int32.toNatClampNeg x22))) + (zi rA 117 a24 (Int32.toNatClampNeg x22))), rA) else zlet (v2 + 1) fun x27 => f_X7_goodSpot_2 K z th p1 n rA x27))
def f_X7_goodSpot (K : Nat → Nat) (z : Nat) (r : zS) (th : Nat) (p1 : Int32) : Option (Int32 × zS) :=
  f_X7_goodSpot_2 K z th p1 z r 0
set_option maxRecDepth 100000 in
set_option maxHeartbeats 4000000 in
theorem c_X7_goodSpot {l : Launch} {D : va_G} {cy : Nat → ClassId} {base : Nat} {st : Nat → Nat} {K : Nat → Nat} {L : List Nat} {c r : zS} {o : Int64} {z : Nat} (th : Nat) (p1 : Int32) {rv : Int32} {rf : zS}  (hk_th : K th = 7) (hf : f_X7_goodSpot K z r th p1 = some (rv, rf)) : Met l yX7_goodSpot wsX7_goodSpot ({ frames := 7, cells := 0, slots := 0, locals := 169 }) (va_Pc [.ref th, .int p1] (zGW zts0 zns0 D cy base st K L (c, r, o))) (va_Qi (fun (rr : Int32) (_ : Unit) => rr = rv) (fun _ => zB D cy base K L (c, rf, o)) (zA base)) 0 0 (zA base) := by
  refine Met.ofW (cc := cX7_goodSpot) (maxL := 4) (ret := (some .int)) (by decide) rfl ?_
  intro p e s m args below meth cd s₁ B hml hv
  obtain ⟨rfl, hG⟩ := hv
  have hx := B.exec
  have hb := B.bytes
  have hr := B.returns
  have hts := atoms_spec (ws := wsX7_goodSpot) B.pre
  have hown : s.vm.findClass RX7 = some m.cls := findClass_of_methodNamed B.named
  have hlocks := B.notSynchronized
  have hC := hG.enter
  have hK := hG.2.2.2.1
  have hi7 : ∀ w ∈ wsX70, w ∈ wsX7_goodSpot := by decide +kernel
  have w0 := hts (.fieldLink RX7 60 "MarketSquareModel" "wishMany" "[I") (by decide +kernel)
  have w1 := hts (.fieldLink RX7 63 "MarketSquareModel" "any" "[Z") (by decide +kernel)
  have w2 := hts (.fieldLink RX7 54 "MarketSquareModel" "wishRow" "[I") (by decide +kernel)
  have w3 := hts (.fieldLink RX7 57 "MarketSquareModel" "wishPlace" "[I") (by decide +kernel)
  have hl := lv_entry ([.ref th, .int p1]) (n := 4) (Nat.le_of_ble_eq_true rfl)
  rw [lg_entry_eq]
  generalize (lg_sl ([.ref th, .int p1]) ++ List.replicate (4 - (lg_sl ([.ref th, .int p1])).length) Slot.unset).toArray = ls at hl ⊢
  have hl : lv_has ls 4 [(0, .ref th), (1, .int p1)] := hl
  have L111 : ∀ (n111 : Nat) (rA : zS) (H : Heap) (locs : List Loc) (ls : Array Slot) (v2 : Int32) (v3 : Int32), zC D cy base K L (c, rA, o) s.heap H locs → lv_has ls 4 [(0, .ref th), (1, .int p1), (2, .int v2), (3, .int v3)] → f_X7_goodSpot_111 K z th p1 n111 rA v2 v3 = some (rv, rf) → W p l e (headSpec wsX7_goodSpot ({ frames := 7, cells := 0, slots := 0, locals := 169 })).room s m ([.ref th, .int p1] : List Value).toArray below meth cd H locs 0 0 (MQ below (va_Qi (fun (rr : Int32) (_ : Unit) => rr = rv) (fun _ => zB D cy base K L (c, rf, o)) (zA base)) ([.ref th, .int p1] : List Value).toArray s 0 0 (zA base)) (F0 m 111 ls []) := by
    intro n111
    induction n111 with
    | zero => intro rA H locs ls v2 v3 hC hl hf; rw [f_X7_goodSpot_111] at hf; cases hf
    | succ n111 ih111 =>
      intro rA H locs ls v2 v3 hC hl hf
      rw [f_X7_goodSpot_111] at hf
      refine lv_iload_n hx hb dX7_goodSpot_111 rfl (lv_at hl 3 rfl) ?_
      refine lv_bipush (v := 40) hx hb dX7_goodSpot_112 (by decide) ?_
      refine lv_icmp_ge (tgt := 134) hx hb dX7_goodSpot_114 (by decide) (fun h17 => ?_) (fun h17 => ?_)
      · have hf := zif_t hf h17
        refine lv_iload_n hx hb dX7_goodSpot_134 rfl (lv_at hl 2 rfl) ?_
        exact z_iretM hx hb hr hlocks hC hf dX7_goodSpot_135
      · have hf := zif_f hf h17
        refine lv_iload_n hx hb dX7_goodSpot_117 rfl (lv_at hl 2 rfl) ?_
        refine lv_if_ge (tgt := 134) hx hb dX7_goodSpot_118 (by decide) (fun h16 => ?_) (fun h16 => ?_)
        · have hf := zif_t hf h16
          refine lv_iload_n hx hb dX7_goodSpot_134 rfl (lv_at hl 2 rfl) ?_
          exact z_iretM hx hb hr hlocks hC hf dX7_goodSpot_135
        · have hf := zif_f hf h16
          refine lv_aload_n hx hb dX7_goodSpot_121 rfl (lv_at hl 0 rfl) ?_
          refine lv_iload_n hx hb dX7_goodSpot_122 rfl (lv_at hl 1 rfl) ?_
          refine lv_iload_n hx hb dX7_goodSpot_123 rfl (lv_at hl 3 rfl) ?_
          obtain ⟨x13, r14, hc12, hf⟩ := zb2_inv hf
          refine z_ci (z_rV (As := [.int p1, .int v3]) (rest := []) ⟨hx, hb, hml, hown, hts⟩ (c_X7_goodIn (l := l) (D := D) (cy := cy) (base := base) (st := st) (K := K) (L := L) (c := c) (r := rA) (o := o) (z := z) th p1 v3 hk_th hc12) (cwV 2 hts gX7_goodSpot_X7_goodIn rfl rfl rfl (by decide +kernel) ⟨Nat.le_of_ble_eq_true rfl, Nat.le_of_ble_eq_true rfl⟩) hG hC (zC.recv (ci := 7) (fs := _) hK hC (by rw [hk_th]; decide) (by rw [hk_th]; exact zc_7 cy _ _) rfl) rfl hl.1 rfl (lv_room (Nat.le_of_ble_eq_true rfl)) dX7_goodSpot_124 ⟨Nat.le_of_ble_eq_true rfl, Nat.le_of_ble_eq_true rfl⟩) hC (fun H locs hC => ?_)
          refine lv_istore_n (lv' := [(2, .int x13), (0, .ref th), (1, .int p1), (3, .int v3)]) hx hb dX7_goodSpot_127 rfl hl (by decide) rfl (fun ls hl => ?_)
          obtain ⟨x15, ex15, hf⟩ := zlet_inv hf
          refine lv_iinc (v := x15) (lv' := [(3, .int x15), (2, .int x13), (0, .ref th), (1, .int p1)]) hx hb dX7_goodSpot_128 hl (k := 3) rfl (by rw [ex15]; rfl) (by decide) rfl (fun ls hl => ?_)
          refine lv_goto (tgt := 111) hx hb dX7_goodSpot_131 (by decide) ?_
          exact ih111 _ _ _ _ x13 x15 hC (lv_sub hl [2, 3, 1, 0] rfl) hf
  have L2 : ∀ (n2 : Nat) (rA : zS) (H : Heap) (locs : List Loc) (ls : Array Slot) (v2 : Int32), zC D cy base K L (c, rA, o) s.heap H locs → lv_has ls 4 [(0, .ref th), (1, .int p1), (2, .int v2)] → f_X7_goodSpot_2 K z th p1 n2 rA v2 = some (rv, rf) → W p l e (headSpec wsX7_goodSpot ({ frames := 7, cells := 0, slots := 0, locals := 169 })).room s m ([.ref th, .int p1] : List Value).toArray below meth cd H locs 0 0 (MQ below (va_Qi (fun (rr : Int32) (_ : Unit) => rr = rv) (fun _ => zB D cy base K L (c, rf, o)) (zA base)) ([.ref th, .int p1] : List Value).toArray s 0 0 (zA base)) (F0 m 2 ls []) := by
    intro n2
    induction n2 with
    | zero => intro rA H locs ls v2 hC hl hf; rw [f_X7_goodSpot_2] at hf; cases hf
    | succ n2 ih2 =>
      intro rA H locs ls v2 hC hl hf
      rw [f_X7_goodSpot_2] at hf
      refine lv_iload_n hx hb dX7_goodSpot_2 rfl (lv_at hl 2 rfl) ?_
      refine lv_aload_n hx hb dX7_goodSpot_3 rfl (lv_at hl 0 rfl) ?_
      refine zg_7_18 hx hb hts hi7 hown hK hC hk_th w0 dX7_goodSpot_4 ?_
      obtain ⟨a1, ea1, hk_a1, hf⟩ := zn_inv hf
      refine z_ref ea1 ?_
      refine lv_iload_n hx hb dX7_goodSpot_7 rfl (lv_at hl 1 rfl) ?_
      obtain ⟨hix, hf⟩ := zx_inv hf
      refine xg_118 hx hb hK hC hk_a1 hix dX7_goodSpot_8 ?_
      refine lv_icmp_ge (tgt := 63) hx hb dX7_goodSpot_9 (by decide) (fun h29 => ?_) (fun h29 => ?_)
      · have hf := zif_t hf h29
        refine lv_aload_n hx hb dX7_goodSpot_63 rfl (lv_at hl 0 rfl) ?_
        refine zg_7_19 hx hb hts hi7 hown hK hC hk_th w1 dX7_goodSpot_64 ?_
        obtain ⟨a2, ea2, hk_a2, hf⟩ := zn_inv hf
        refine z_ref ea2 ?_
        refine lv_iload_n hx hb dX7_goodSpot_67 rfl (lv_at hl 1 rfl) ?_
        obtain ⟨hix, hf⟩ := zx_inv hf
        refine xg_119 hx hb hK hC hk_a2 hix dX7_goodSpot_68 ?_
        refine lv_if_eq (tgt := 100) hx hb dX7_goodSpot_69 (by decide) (fun h21 => ?_) (fun h21 => ?_)
        · have hf := zif_t hf h21
          refine lv_iconst (v := (-1)) hx hb dX7_goodSpot_100 (by decide) ?_
          exact z_iretM hx hb hr hlocks hC hf dX7_goodSpot_101
        · have hf := zif_f hf h21
          refine lv_aload_n hx hb dX7_goodSpot_72 rfl (lv_at hl 0 rfl) ?_
          refine lv_iload_n hx hb dX7_goodSpot_73 rfl (lv_at hl 1 rfl) ?_
          obtain ⟨x4, hc3, hf⟩ := zb_inv hf
          refine z_ci (z_rV (As := [.int p1]) (rest := []) ⟨hx, hb, hml, hown, hts⟩ (c_X7_isFull (l := l) (D := D) (cy := cy) (base := base) (st := st) (K := K) (L := L) (c := c) (r := rA) (o := o) (z := z) th p1 hk_th hc3) (cwV 1 hts gX7_goodSpot_X7_isFull rfl rfl rfl (by decide +kernel) ⟨Nat.le_of_ble_eq_true rfl, Nat.le_of_ble_eq_true rfl⟩) hG hC (zC.recv (ci := 7) (fs := _) hK hC (by rw [hk_th]; decide) (by rw [hk_th]; exact zc_7 cy _ _) rfl) rfl hl.1 rfl (lv_room (Nat.le_of_ble_eq_true rfl)) dX7_goodSpot_74 ⟨Nat.le_of_ble_eq_true rfl, Nat.le_of_ble_eq_true rfl⟩) hC (fun H locs hC => ?_)
          refine lv_if_ne (tgt := 100) hx hb dX7_goodSpot_77 (by decide) (fun h20 => ?_) (fun h20 => ?_)
          · have hf := zif_f hf h20
            refine lv_iconst (v := (-1)) hx hb dX7_goodSpot_100 (by decide) ?_
            exact z_iretM hx hb hr hlocks hC hf dX7_goodSpot_101
          · have hf := zif_t hf h20
            refine lv_aload_n hx hb dX7_goodSpot_80 rfl (lv_at hl 0 rfl) ?_
            refine lv_iload_n hx hb dX7_goodSpot_81 rfl (lv_at hl 1 rfl) ?_
            obtain ⟨x6, hc5, hf⟩ := zb_inv hf
            refine z_ci (z_rV (As := [.int p1]) (rest := []) ⟨hx, hb, hml, hown, hts⟩ (c_X7_isOutOfMonth (l := l) (D := D) (cy := cy) (base := base) (st := st) (K := K) (L := L) (c := c) (r := rA) (o := o) (z := z) th p1 hk_th hc5) (cwV 1 hts gX7_goodSpot_X7_isOutOfMonth rfl rfl rfl (by decide +kernel) ⟨Nat.le_of_ble_eq_true rfl, Nat.le_of_ble_eq_true rfl⟩) hG hC (zC.recv (ci := 7) (fs := _) hK hC (by rw [hk_th]; decide) (by rw [hk_th]; exact zc_7 cy _ _) rfl) rfl hl.1 rfl (lv_room (Nat.le_of_ble_eq_true rfl)) dX7_goodSpot_82 ⟨Nat.le_of_ble_eq_true rfl, Nat.le_of_ble_eq_true rfl⟩) hC (fun H locs hC => ?_)
            refine lv_if_ne (tgt := 100) hx hb dX7_goodSpot_85 (by decide) (fun h19 => ?_) (fun h19 => ?_)
            · have hf := zif_f hf h19
              refine lv_iconst (v := (-1)) hx hb dX7_goodSpot_100 (by decide) ?_
              exact z_iretM hx hb hr hlocks hC hf dX7_goodSpot_101
            · have hf := zif_t hf h19
              refine lv_aload_n hx hb dX7_goodSpot_88 rfl (lv_at hl 0 rfl) ?_
              refine lv_iload_n hx hb dX7_goodSpot_89 rfl (lv_at hl 1 rfl) ?_
              refine lv_iconst (v := 0) hx hb dX7_goodSpot_90 (by decide) ?_
              refine lv_iconst (v := 0) hx hb dX7_goodSpot_91 (by decide) ?_
              refine lv_bipush (v := 10) hx hb dX7_goodSpot_92 (by decide) ?_
              obtain ⟨x8, hc7, hf⟩ := zb_inv hf
              refine z_ci (z_rV (As := [.int p1, .int 0, .int 0, .int 10]) (rest := []) ⟨hx, hb, hml, hown, hts⟩ (c_X7_anyStops (l := l) (D := D) (cy := cy) (base := base) (st := st) (K := K) (L := L) (c := c) (r := rA) (o := o) (z := z) th p1 0 0 10 hk_th hc7) (cwV 4 hts gX7_goodSpot_X7_anyStops rfl rfl rfl (by decide +kernel) ⟨Nat.le_of_ble_eq_true rfl, Nat.le_of_ble_eq_true rfl⟩) hG hC (zC.recv (ci := 7) (fs := _) hK hC (by rw [hk_th]; decide) (by rw [hk_th]; exact zc_7 cy _ _) rfl) rfl hl.1 rfl (lv_room (Nat.le_of_ble_eq_true rfl)) dX7_goodSpot_94 ⟨Nat.le_of_ble_eq_true rfl, Nat.le_of_ble_eq_true rfl⟩) hC (fun H locs hC => ?_)
              refine lv_if_eq (tgt := 102) hx hb dX7_goodSpot_97 (by decide) (fun h18 => ?_) (fun h18 => ?_)
              · have hf := zif_t hf h18
                refine lv_aload_n hx hb dX7_goodSpot_102 rfl (lv_at hl 0 rfl) ?_
                refine lv_iload_n hx hb dX7_goodSpot_103 rfl (lv_at hl 1 rfl) ?_
                obtain ⟨r11, hc9, hf⟩ := zb_inv hf
                refine z_cv (z_rV (As := [.int p1]) (rest := []) ⟨hx, hb, hml, hown, hts⟩ (c_X7_takes (l := l) (D := D) (cy := cy) (base := base) (st := st) (K := K) (L := L) (c := c) (r := rA) (o := o) (z := z) th p1 hk_th hc9) (cwV 1 hts gX7_goodSpot_X7_takes rfl rfl rfl (by decide +kernel) ⟨Nat.le_of_ble_eq_true rfl, Nat.le_of_ble_eq_true rfl⟩) hG hC (zC.recv (ci := 7) (fs := _) hK hC (by rw [hk_th]; decide) (by rw [hk_th]; exact zc_7 cy _ _) rfl) rfl hl.1 rfl (lv_room (Nat.le_of_ble_eq_true rfl)) dX7_goodSpot_104 ⟨Nat.le_of_ble_eq_true rfl, Nat.le_of_ble_eq_true rfl⟩) hC (fun H locs hC => ?_)
                refine lv_iconst (v := (-1)) hx hb dX7_goodSpot_107 (by decide) ?_
                refine lv_istore_n (lv' := [(2, .int (-1)), (0, .ref th), (1, .int p1)]) hx hb dX7_goodSpot_108 rfl hl (by decide) rfl (fun ls hl => ?_)
                refine lv_iconst (v := 0) hx hb dX7_goodSpot_109 (by decide) ?_
                refine lv_istore_n (lv' := [(3, .int 0), (2, .int (-1)), (0, .ref th), (1, .int p1)]) hx hb dX7_goodSpot_110 rfl hl (by decide) rfl (fun ls hl => ?_)
                exact L111 z _ _ _ _ (-1) 0 hC (lv_sub hl [2, 3, 1, 0] rfl) hf
              · have hf := zif_f hf h18
                refine lv_iconst (v := (-1)) hx hb dX7_goodSpot_100 (by decide) ?_
                exact z_iretM hx hb hr hlocks hC hf dX7_goodSpot_101
      · have hf := zif_f hf h29
        refine lv_bipush (v := 12) hx hb dX7_goodSpot_12 (by decide) ?_
        refine lv_iload_n hx hb dX7_goodSpot_14 rfl (lv_at hl 1 rfl) ?_
        refine lv_imul hx hb dX7_goodSpot_15 ?_
        refine lv_iload_n hx hb dX7_goodSpot_16 rfl (lv_at hl 2 rfl) ?_
        refine lv_iadd hx hb dX7_goodSpot_17 ?_
        obtain ⟨x22, ex22, hf⟩ := zlet_inv hf
        refine z_name ex22 ?_
        refine lv_istore_n (lv' := [(3, .int x22), (0, .ref th), (1, .int p1), (2, .int v2)]) hx hb dX7_goodSpot_18 rfl hl (by decide) rfl (fun ls hl => ?_)
        refine lv_aload_n hx hb dX7_goodSpot_19 rfl (lv_at hl 1 rfl) ?_
        refine lv_iload_n hx hb dX7_goodSpot_20 rfl (lv_at hl 2 rfl) ?_
        refine lv_aload_n hx hb dX7_goodSpot_21 rfl (lv_at hl 1 rfl) ?_
        refine zg_7_16 hx hb hts hi7 hown hK hC hk_th w2 dX7_goodSpot_22 ?_
        obtain ⟨a23, ea23, hk_a23, hf⟩ := zn_inv hf
        refine z_ref ea23 ?_
        refine lv_iload_n hx hb dX7_goodSpot_25 rfl (lv_at hl 0 rfl) ?_
        obtain ⟨hix, hf⟩ := zx_inv hf
        refine xg_116 hx hb hK hC hk_a23 hix dX7_goodSpot_26 ?_
        refine lv_aload_n hx hb dX7_goodSpot_27 rfl (lv_at hl 1 rfl) ?_
        refine zg_7_17 hx hb hts hi7 hown hK hC hk_th w3 dX7_goodSpot_28 ?_
        obtain ⟨a24, ea24, hk_a24, hf⟩ := zn_inv hf
        refine z_ref ea24 ?_
        refine lv_iload_n hx hb dX7_goodSpot_31 rfl (lv_at hl 0 rfl) ?_
        obtain ⟨hix, hf⟩ := zx_inv hf
        refine xg_117 hx hb hK hC hk_a24 hix dX7_goodSpot_32 ?_
        obtain ⟨x26, hc25, hf⟩ := zb_inv hf
        refine z_ci (z_rV (As := [.int p1, .int (zi rA 116 a23 (Int32.toNatClampNeg x22)), .int (zi rA 117 a24 (Int32.toNatClampNeg x22))]) (rest := []) ⟨hx, hb, hml, hown, hts⟩ (c_X7_against (l := l) (D := D) (cy := cy) (base := base) (st := st) (K := K) (L := L) (c := c) (r := rA) (o := o) (z := z) th p1 (zi rA 116 a23 (Int32.toNatClampNeg x22)) (zi rA 117 a24 (Int32.toNatClampNeg x22)) hk_th hc25) (cwV 3 hts gX7_goodSpot_X7_against rfl rfl rfl (by decide +kernel) ⟨Nat.le_of_ble_eq_true rfl, Nat.le_of_ble_eq_true rfl⟩) hG hC (zC.recv (ci := 7) (fs := _) hK hC (by rw [hk_th]; decide) (by rw [hk_th]; exact zc_7 cy _ _) rfl) rfl hl.1 rfl (lv_room (Nat.le_of_ble_eq_true rfl)) dX7_goodSpot_33 ⟨Nat.le_of_ble_eq_true rfl, Nat.le_of_ble_eq_true rfl⟩) hC (fun H locs hC => ?_)
        refine lv_if_ne (tgt := 57) hx hb dX7_goodSpot_36 (by decide) (fun h28 => ?_) (fun h28 => ?_)
        · have hf := zif_f hf h28
          obtain ⟨x27, ex27, hf⟩ := zlet_inv hf
          refine lv_iinc (v := x27) (lv' := [(2, .int x27), (3, .int x22), (0, .ref th), (1, .int p1)]) hx hb dX7_goodSpot_57 hl (k := 3) rfl (by rw [ex27]; rfl) (by decide) rfl (fun ls hl => ?_)
          refine lv_goto (tgt := 2) hx hb dX7_goodSpot_60 (by decide) ?_
          exact ih2 _ _ _ _ x27 hC (lv_sub hl [2, 3, 0] rfl) hf
        · have hf := zif_t hf h28
          refine lv_sipush (v := 200) hx hb dX7_goodSpot_39 (by decide) ?_
          refine lv_aload_n hx hb dX7_goodSpot_42 rfl (lv_at hl 1 rfl) ?_
          refine zg_7_16 hx hb hts hi7 hown hK hC hk_th w2 dX7_goodSpot_43 ?_
          refine z_ref ea23 ?_
          refine lv_iload_n hx hb dX7_goodSpot_46 rfl (lv_at hl 0 rfl) ?_
          obtain ⟨hix, hf⟩ := zx_inv hf
          refine xg_116 hx hb hK hC hk_a23 hix dX7_goodSpot_47 ?_
          refine lv_imul hx hb dX7_goodSpot_48 ?_
          refine lv_aload_n hx hb dX7_goodSpot_49 rfl (lv_at hl 1 rfl) ?_
          refine zg_7_17 hx hb hts hi7 hown hK hC hk_th w3 dX7_goodSpot_50 ?_
          refine z_ref ea24 ?_
          refine lv_iload_n hx hb dX7_goodSpot_53 rfl (lv_at hl 0 rfl) ?_
          obtain ⟨hix, hf⟩ := zx_inv hf
          refine xg_117 hx hb hK hC hk_a24 hix dX7_goodSpot_54 ?_
          refine lv_iadd hx hb dX7_goodSpot_55 ?_
          exact z_iretM hx hb hr hlocks hC hf dX7_goodSpot_56
  unfold f_X7_goodSpot at hf
  refine lv_iconst (v := 0) hx hb dX7_goodSpot_0 (by decide) ?_
  refine lv_istore_n (lv' := [(2, .int 0), (0, .ref th), (1, .int p1)]) hx hb dX7_goodSpot_1 rfl hl (by decide) rfl (fun ls hl => ?_)
  exact L2 z _ _ _ _ 0 hC (lv_sub hl [1, 2, 0] rfl) hf
def f_X7_good (K : Nat → Nat) (z : Nat) (r : zS) (th : Nat) (p1 : Int32) : Option (Int32 × zS) :=
  zlet (zui r 0 th 0 0) fun r1 => zb (f_X7_noTrader K z r1 th p1) fun x3 => zb2 (f_X7_throwsIf K z r1 th x3 1) fun x5 r6 => (if x5 = 0 then zb2 (f_X7_goodSpot K z r6 th p1) fun x8 r9 => some (x8, r9) else some (0, r6))
set_option maxRecDepth 100000 in
set_option maxHeartbeats 4000000 in
theorem c_X7_good {l : Launch} {D : va_G} {cy : Nat → ClassId} {base : Nat} {st : Nat → Nat} {K : Nat → Nat} {L : List Nat} {c r : zS} {o : Int64} {z : Nat} (th : Nat) (p1 : Int32) {rv : Int32} {rf : zS}  (hk_th : K th = 7) (hf : f_X7_good K z r th p1 = some (rv, rf)) : Met l yX7_good wsX7_good ({ frames := 8, cells := 0, slots := 0, locals := 192 }) (va_Pc [.ref th, .int p1] (zGW zts0 zns0 D cy base st K L (c, r, o))) (va_Qi (fun (rr : Int32) (_ : Unit) => rr = rv) (fun _ => zB D cy base K L (c, rf, o)) (zA base)) 0 0 (zA base) := by
  refine Met.ofW (cc := cX7_good) (maxL := 2) (ret := (some .int)) (by decide) rfl ?_
  intro p e s m args below meth cd s₁ B hml hv
  obtain ⟨rfl, hG⟩ := hv
  have hx := B.exec
  have hb := B.bytes
  have hr := B.returns
  have hts := atoms_spec (ws := wsX7_good) B.pre
  have hown : s.vm.findClass RX7 = some m.cls := findClass_of_methodNamed B.named
  have hlocks := B.notSynchronized
  have hC := hG.enter
  have hK := hG.2.2.2.1
  have hi7 : ∀ w ∈ wsX70, w ∈ wsX7_good := by decide +kernel
  have w0 := hts (.fieldLink RX7 127 "MarketSquareModel" "thrown" "I") (by decide +kernel)
  have hl := lv_entry ([.ref th, .int p1]) (n := 2) (Nat.le_of_ble_eq_true rfl)
  rw [lg_entry_eq]
  generalize (lg_sl ([.ref th, .int p1]) ++ List.replicate (2 - (lg_sl ([.ref th, .int p1])).length) Slot.unset).toArray = ls at hl ⊢
  have hl : lv_has ls 2 [(0, .ref th), (1, .int p1)] := hl
  unfold f_X7_good at hf
  refine lv_aload_n hx hb dX7_good_0 rfl (lv_at hl 0 rfl) ?_
  refine lv_iconst (v := 0) hx hb dX7_good_1 (by decide) ?_
  obtain ⟨r1, er1, hf⟩ := zlet_inv hf
  refine zp_7_0 hx hb hts hi7 hown hK hC hk_th w0 er1 dX7_good_2 (fun H locs hC => ?_)
  refine lv_aload_n hx hb dX7_good_5 rfl (lv_at hl 0 rfl) ?_
  refine lv_aload_n hx hb dX7_good_6 rfl (lv_at hl 0 rfl) ?_
  refine lv_iload_n hx hb dX7_good_7 rfl (lv_at hl 1 rfl) ?_
  obtain ⟨x3, hc2, hf⟩ := zb_inv hf
  refine z_ci (z_rV (As := [.int p1]) (rest := [.ref th]) ⟨hx, hb, hml, hown, hts⟩ (c_X7_noTrader (l := l) (D := D) (cy := cy) (base := base) (st := st) (K := K) (L := L) (c := c) (r := r1) (o := o) (z := z) th p1 hk_th hc2) (cwV 1 hts gX7_good_X7_noTrader rfl rfl rfl (by decide +kernel) ⟨Nat.le_of_ble_eq_true rfl, Nat.le_of_ble_eq_true rfl⟩) hG hC (zC.recv (ci := 7) (fs := _) hK hC (by rw [hk_th]; decide) (by rw [hk_th]; exact zc_7 cy _ _) rfl) rfl hl.1 rfl (lv_room (Nat.le_of_ble_eq_true rfl)) dX7_good_8 ⟨Nat.le_of_ble_eq_true rfl, Nat.le_of_ble_eq_true rfl⟩) hC (fun H locs hC => ?_)
  refine lv_iconst (v := 1) hx hb dX7_good_11 (by decide) ?_
  obtain ⟨x5, r6, hc4, hf⟩ := zb2_inv hf
  refine z_ci (z_rV (As := [.int x3, .int 1]) (rest := []) ⟨hx, hb, hml, hown, hts⟩ (c_X7_throwsIf (l := l) (D := D) (cy := cy) (base := base) (st := st) (K := K) (L := L) (c := c) (r := r1) (o := o) (z := z) th x3 1 hk_th hc4) (cwV 2 hts gX7_good_X7_throwsIf rfl rfl rfl (by decide +kernel) ⟨Nat.le_of_ble_eq_true rfl, Nat.le_of_ble_eq_true rfl⟩) hG hC (zC.recv (ci := 7) (fs := _) hK hC (by rw [hk_th]; decide) (by rw [hk_th]; exact zc_7 cy _ _) rfl) rfl hl.1 rfl (lv_room (Nat.le_of_ble_eq_true rfl)) dX7_good_12 ⟨Nat.le_of_ble_eq_true rfl, Nat.le_of_ble_eq_true rfl⟩) hC (fun H locs hC => ?_)
  refine lv_if_eq (tgt := 20) hx hb dX7_good_15 (by decide) (fun h10 => ?_) (fun h10 => ?_)
  · have hf := zif_t hf h10
    refine lv_aload_n hx hb dX7_good_20 rfl (lv_at hl 0 rfl) ?_
    refine lv_iload_n hx hb dX7_good_21 rfl (lv_at hl 1 rfl) ?_
    obtain ⟨x8, r9, hc7, hf⟩ := zb2_inv hf
    refine z_ci (z_rV (As := [.int p1]) (rest := []) ⟨hx, hb, hml, hown, hts⟩ (c_X7_goodSpot (l := l) (D := D) (cy := cy) (base := base) (st := st) (K := K) (L := L) (c := c) (r := r6) (o := o) (z := z) th p1 hk_th hc7) (cwV 1 hts gX7_good_X7_goodSpot rfl rfl rfl (by decide +kernel) ⟨Nat.le_of_ble_eq_true rfl, Nat.le_of_ble_eq_true rfl⟩) hG hC (zC.recv (ci := 7) (fs := _) hK hC (by rw [hk_th]; decide) (by rw [hk_th]; exact zc_7 cy _ _) rfl) rfl hl.1 rfl (lv_room (Nat.le_of_ble_eq_true rfl)) dX7_good_22 ⟨Nat.le_of_ble_eq_true rfl, Nat.le_of_ble_eq_true rfl⟩) hC (fun H locs hC => ?_)
    exact z_iretM hx hb hr hlocks hC hf dX7_good_25
  · have hf := zif_f hf h10
    refine lv_iconst (v := 0) hx hb dX7_good_18 (by decide) ?_
    exact z_iretM hx hb hr hlocks hC hf dX7_good_19
def f_X7_bits_4 (K : Nat → Nat) (z : Nat) (r : zS) (p1 : Int32) : Nat → Int32 → Int32 → Option Int32
  | 0, _, _ => none
  | n + 1, v1, v2 =>
    (if 8 ≤ v2 then some v1 else zlet (v1 + ((p1 >>> (v2 &&& 31)) &&& 1)) fun x1 => zlet (v2 + 1) fun x2 => f_X7_bits_4 K z r p1 n x1 x2)
def f_X7_bits (K : Nat → Nat) (z : Nat) (r : zS) (p1 : Int32) : Option Int32 :=
  f_X7_bits_4 K z r p1 z 0 0
set_option maxRecDepth 100000 in
set_option maxHeartbeats 4000000 in
theorem c_X7_bits {l : Launch} {D : va_G} {cy : Nat → ClassId} {base : Nat} {st : Nat → Nat} {K : Nat → Nat} {L : List Nat} {c r : zS} {o : Int64} {z : Nat} (p1 : Int32) {rv : Int32}  (hf : f_X7_bits K z r p1 = some rv) : Met l yX7_bits wsX7_bits ({ frames := 0, cells := 0, slots := 0, locals := 0 }) (va_Pc [.int p1] (zGW zts0 zns0 D cy base st K L (c, r, o))) (va_Qi (fun (rr : Int32) (_ : Unit) => rr = rv) (fun _ => zB D cy base K L (c, r, o)) (zA base)) 0 0 (zA base) := by
  refine Met.ofW (cc := cX7_bits) (maxL := 3) (ret := (some .int)) (by decide) rfl ?_
  intro p e s m args below meth cd s₁ B hml hv
  obtain ⟨rfl, hG⟩ := hv
  have hx := B.exec
  have hb := B.bytes
  have hr := B.returns
  have hts := atoms_spec (ws := wsX7_bits) B.pre
  have hown : s.vm.findClass RX7 = some m.cls := findClass_of_methodNamed B.named
  have hlocks := B.notSynchronized
  have hC := hG.enter
  have hK := hG.2.2.2.1
  have hl := lv_entry ([.int p1]) (n := 3) (Nat.le_of_ble_eq_true rfl)
  rw [lg_entry_eq]
  generalize (lg_sl ([.int p1]) ++ List.replicate (3 - (lg_sl ([.int p1])).length) Slot.unset).toArray = ls at hl ⊢
  have hl : lv_has ls 3 [(0, .int p1)] := hl
  have L4 : ∀ (n4 : Nat) (H : Heap) (locs : List Loc) (ls : Array Slot) (v1 : Int32) (v2 : Int32), zC D cy base K L (c, r, o) s.heap H locs → lv_has ls 3 [(0, .int p1), (1, .int v1), (2, .int v2)] → f_X7_bits_4 K z r p1 n4 v1 v2 = some rv → W p l e (headSpec wsX7_bits ({ frames := 0, cells := 0, slots := 0, locals := 0 })).room s m ([.int p1] : List Value).toArray below meth cd H locs 0 0 (MQ below (va_Qi (fun (rr : Int32) (_ : Unit) => rr = rv) (fun _ => zB D cy base K L (c, r, o)) (zA base)) ([.int p1] : List Value).toArray s 0 0 (zA base)) (F0 m 4 ls []) := by
    intro n4
    induction n4 with
    | zero => intro H locs ls v1 v2 hC hl hf; rw [f_X7_bits_4] at hf; cases hf
    | succ n4 ih4 =>
      intro H locs ls v1 v2 hC hl hf
      rw [f_X7_bits_4] at hf
      refine lv_iload_n hx hb dX7_bits_4 rfl (lv_at hl 2 rfl) ?_
      refine lv_bipush (v := 8) hx hb dX7_bits_5 (by decide) ?_
      refine lv_icmp_ge (tgt := 24) hx hb dX7_bits_7 (by decide) (fun h3 => ?_) (fun h3 => ?_)
      · have hf := zif_t hf h3
        refine lv_iload_n hx hb dX7_bits_24 rfl (lv_at hl 1 rfl) ?_
        exact z_iret hx hb hr hlocks hC hf dX7_bits_25
      · have hf := zif_f hf h3
        refine lv_iload_n hx hb dX7_bits_10 rfl (lv_at hl 1 rfl) ?_
        refine lv_iload_n hx hb dX7_bits_11 rfl (lv_at hl 0 rfl) ?_
        refine lv_iload_n hx hb dX7_bits_12 rfl (lv_at hl 2 rfl) ?_
        refine lv_ishr hx hb dX7_bits_13 ?_
        refine lv_iconst (v := 1) hx hb dX7_bits_14 (by decide) ?_
        refine lv_iand hx hb dX7_bits_15 ?_
        refine lv_iadd hx hb dX7_bits_16 ?_
        obtain ⟨x1, ex1, hf⟩ := zlet_inv hf
        refine z_name ex1 ?_
        refine lv_istore_n (lv' := [(1, .int x1), (0, .int p1), (2, .int v2)]) hx hb dX7_bits_17 rfl hl (by decide) rfl (fun ls hl => ?_)
        obtain ⟨x2, ex2, hf⟩ := zlet_inv hf
        refine lv_iinc (v := x2) (lv' := [(2, .int x2), (1, .int x1), (0, .int p1)]) hx hb dX7_bits_18 hl (k := 2) rfl (by rw [ex2]; rfl) (by decide) rfl (fun ls hl => ?_)
        refine lv_goto (tgt := 4) hx hb dX7_bits_21 (by decide) ?_
        exact ih4 _ _ _ x1 x2 hC (lv_sub hl [2, 1, 0] rfl) hf
  unfold f_X7_bits at hf
  refine lv_iconst (v := 0) hx hb dX7_bits_0 (by decide) ?_
  refine lv_istore_n (lv' := [(1, .int 0), (0, .int p1)]) hx hb dX7_bits_1 rfl hl (by decide) rfl (fun ls hl => ?_)
  refine lv_iconst (v := 0) hx hb dX7_bits_2 (by decide) ?_
  refine lv_istore_n (lv' := [(2, .int 0), (1, .int 0), (0, .int p1)]) hx hb dX7_bits_3 rfl hl (by decide) rfl (fun ls hl => ?_)
  exact L4 z _ _ _ 0 0 hC (lv_sub hl [2, 1, 0] rfl) hf
def f_X7_isAhead_38 (K : Nat → Nat) (z : Nat) (r : zS) (th : Nat) (p1 : Int32) (p2 : Int32) (v3 : Int32) (s0 : Int32) (s1 : Int32) : Option Int32 :=
  (if s0 = s1 then zn K (zr r 31 th 0) 131 fun a3 => zx p1 200 <| zb (f_X7_bits K z r (zi r 131 a3 (Int32.toNatClampNeg p1))) fun x5 => zx p2 200 <| zb (f_X7_bits K z r (zi r 131 a3 (Int32.toNatClampNeg p2))) fun x7 => (if x5 = x7 then zn K (zr r 33 th 0) 133 fun a8 => zx p1 200 <| zx p2 200 <| (if (zi r 133 a8 (Int32.toNatClampNeg p1)) = (zi r 133 a8 (Int32.toNatClampNeg p2)) then zn K (zr r 11 th 0) 111 fun a9 => zx p1 200 <| zx p2 200 <| (if (zi r 111 a9 (Int32.toNatClampNeg p2)) ≤ (zi r 111 a9 (Int32.toNatClampNeg p1)) then some 0 else some 1) else zx p1 200 <| zx p2 200 <| (if (zi r 133 a8 (Int32.toNatClampNeg p2)) ≤ (zi r 133 a8 (Int32.toNatClampNeg p1)) then some 0 else some 1)) else (if x5 ≤ x7 then some 0 else some 1)) else (if v3 = 0 then some 1 else some 0))
def f_X7_isAhead_18 (K : Nat → Nat) (z : Nat) (r : zS) (th : Nat) (p1 : Int32) (p2 : Int32) (s0 : Int32) : Option Int32 :=
  zn K (zr r 34 th 0) 134 fun a2 => zx p2 200 <| (if (lg_cmp (zl r 134 a2 (Int32.toNatClampNeg p2)) 5000) ≤ 0 then f_X7_isAhead_38 K z r th p1 p2 s0 s0 0 else f_X7_isAhead_38 K z r th p1 p2 s0 s0 1)
def f_X7_isAhead (K : Nat → Nat) (z : Nat) (r : zS) (th : Nat) (p1 : Int32) (p2 : Int32) : Option Int32 :=
  zn K (zr r 34 th 0) 134 fun a1 => zx p1 200 <| (if (lg_cmp (zl r 134 a1 (Int32.toNatClampNeg p1)) 5000) ≤ 0 then f_X7_isAhead_18 K z r th p1 p2 0 else f_X7_isAhead_18 K z r th p1 p2 1)
set_option maxRecDepth 100000 in
set_option maxHeartbeats 4000000 in
theorem c_X7_isAhead {l : Launch} {D : va_G} {cy : Nat → ClassId} {base : Nat} {st : Nat → Nat} {K : Nat → Nat} {L : List Nat} {c r : zS} {o : Int64} {z : Nat} (th : Nat) (p1 : Int32) (p2 : Int32) {rv : Int32}  (hk_th : K th = 7) (hf : f_X7_isAhead K z r th p1 p2 = some rv) : Met l yX7_isAhead wsX7_isAhead ({ frames := 1, cells := 0, slots := 0, locals := 22 }) (va_Pc [.ref th, .int p1, .int p2] (zGW zts0 zns0 D cy base st K L (c, r, o))) (va_Qi (fun (rr : Int32) (_ : Unit) => rr = rv) (fun _ => zB D cy base K L (c, r, o)) (zA base)) 0 0 (zA base) := by
  refine Met.ofW (cc := cX7_isAhead) (maxL := 6) (ret := (some .boolean)) (by decide) rfl ?_
  intro p e s m args below meth cd s₁ B hml hv
  obtain ⟨rfl, hG⟩ := hv
  have hx := B.exec
  have hb := B.bytes
  have hr := B.returns
  have hts := atoms_spec (ws := wsX7_isAhead) B.pre
  have hown : s.vm.findClass RX7 = some m.cls := findClass_of_methodNamed B.named
  have hlocks := B.notSynchronized
  have hC := hG.enter
  have hK := hG.2.2.2.1
  have hi7 : ∀ w ∈ wsX70, w ∈ wsX7_isAhead := by decide +kernel
  have w0 := hts (.fieldLink RX7 108 "MarketSquareModel" "owed" "[J") (by decide +kernel)
  have w1 := hts (.constantLong RX7 203 5000) (by decide +kernel)
  have w2 := hts (.fieldLink RX7 99 "MarketSquareModel" "thereBits" "[I") (by decide +kernel)
  have w3 := hts (.fieldLink RX7 105 "MarketSquareModel" "last" "[I") (by decide +kernel)
  have w4 := hts (.fieldLink RX7 39 "MarketSquareModel" "rank" "[I") (by decide +kernel)
  have hl := lv_entry ([.ref th, .int p1, .int p2]) (n := 6) (Nat.le_of_ble_eq_true rfl)
  rw [lg_entry_eq]
  generalize (lg_sl ([.ref th, .int p1, .int p2]) ++ List.replicate (6 - (lg_sl ([.ref th, .int p1, .int p2])).length) Slot.unset).toArray = ls at hl ⊢
  have hl : lv_has ls 6 [(0, .ref th), (1, .int p1), (2, .int p2)] := hl
  have J38 : ∀ (H : Heap) (locs : List Loc) (ls : Array Slot) (v3 : Int32) (s0 : Int32) (s1 : Int32), zC D cy base K L (c, r, o) s.heap H locs → lv_has ls 6 [(0, .ref th), (1, .int p1), (2, .int p2), (3, .int v3)] → f_X7_isAhead_38 K z r th p1 p2 v3 s0 s1 = some rv → W p l e (headSpec wsX7_isAhead ({ frames := 1, cells := 0, slots := 0, locals := 22 })).room s m ([.ref th, .int p1, .int p2] : List Value).toArray below meth cd H locs 0 0 (MQ below (va_Qi (fun (rr : Int32) (_ : Unit) => rr = rv) (fun _ => zB D cy base K L (c, r, o)) (zA base)) ([.ref th, .int p1, .int p2] : List Value).toArray s 0 0 (zA base)) (F0 m 38 ls [.int s1, .int s0]) := by
    intro H locs ls v3 s0 s1 hC hl hf
    unfold f_X7_isAhead_38 at hf
    refine lv_icmp_eq (tgt := 51) hx hb dX7_isAhead_38 (by decide) (fun h16 => ?_) (fun h16 => ?_)
    · have hf := zif_t hf h16
      refine lv_aload_n hx hb dX7_isAhead_51 rfl (lv_at hl 0 rfl) ?_
      refine zg_7_31 hx hb hts hi7 hown hK hC hk_th w2 dX7_isAhead_52 ?_
      obtain ⟨a3, ea3, hk_a3, hf⟩ := zn_inv hf
      refine z_ref ea3 ?_
      refine lv_iload_n hx hb dX7_isAhead_55 rfl (lv_at hl 1 rfl) ?_
      obtain ⟨hix, hf⟩ := zx_inv hf
      refine xg_131 hx hb hK hC hk_a3 hix dX7_isAhead_56 ?_
      obtain ⟨x5, hc4, hf⟩ := zb_inv hf
      refine z_ci (z_rS (b := 0) (As := [.int (zi r 131 a3 (Int32.toNatClampNeg p1))]) (rest := []) ⟨hx, hb, hml, hown, hts⟩ (c_X7_bits (l := l) (D := D) (cy := cy) (base := base) (st := st) (K := K) (L := L) (c := c) (r := r) (o := o) (z := z) (zi r 131 a3 (Int32.toNatClampNeg p1))  hc4) (va_cwS 1 hts gX7_isAhead_X7_bits rfl rfl rfl (by decide +kernel) ⟨Nat.le_of_ble_eq_true rfl, Nat.le_of_ble_eq_true rfl⟩) hG hC rfl hl.1 rfl (lv_room (Nat.le_of_ble_eq_true rfl)) dX7_isAhead_57 ⟨Nat.le_of_ble_eq_true rfl, Nat.le_of_ble_eq_true rfl⟩) hC (fun H locs hC => ?_)
      refine lv_istore (lv' := [(4, .int x5), (0, .ref th), (1, .int p1), (2, .int p2), (3, .int v3)]) hx hb dX7_isAhead_60 hl (by decide) rfl (fun ls hl => ?_)
      refine lv_aload_n hx hb dX7_isAhead_62 rfl (lv_at hl 1 rfl) ?_
      refine zg_7_31 hx hb hts hi7 hown hK hC hk_th w2 dX7_isAhead_63 ?_
      refine z_ref ea3 ?_
      refine lv_iload_n hx hb dX7_isAhead_66 rfl (lv_at hl 3 rfl) ?_
      obtain ⟨hix, hf⟩ := zx_inv hf
      refine xg_131 hx hb hK hC hk_a3 hix dX7_isAhead_67 ?_
      obtain ⟨x7, hc6, hf⟩ := zb_inv hf
      refine z_ci (z_rS (b := 0) (As := [.int (zi r 131 a3 (Int32.toNatClampNeg p2))]) (rest := []) ⟨hx, hb, hml, hown, hts⟩ (c_X7_bits (l := l) (D := D) (cy := cy) (base := base) (st := st) (K := K) (L := L) (c := c) (r := r) (o := o) (z := z) (zi r 131 a3 (Int32.toNatClampNeg p2))  hc6) (va_cwS 1 hts gX7_isAhead_X7_bits rfl rfl rfl (by decide +kernel) ⟨Nat.le_of_ble_eq_true rfl, Nat.le_of_ble_eq_true rfl⟩) hG hC rfl hl.1 rfl (lv_room (Nat.le_of_ble_eq_true rfl)) dX7_isAhead_68 ⟨Nat.le_of_ble_eq_true rfl, Nat.le_of_ble_eq_true rfl⟩) hC (fun H locs hC => ?_)
      refine lv_istore (lv' := [(5, .int x7), (4, .int x5), (0, .ref th), (1, .int p1), (2, .int p2), (3, .int v3)]) hx hb dX7_isAhead_71 hl (by decide) rfl (fun ls hl => ?_)
      refine lv_iload hx hb dX7_isAhead_73 (lv_at hl 1 rfl) ?_
      refine lv_iload hx hb dX7_isAhead_75 (lv_at hl 0 rfl) ?_
      refine lv_icmp_eq (tgt := 93) hx hb dX7_isAhead_77 (by decide) (fun h14 => ?_) (fun h14 => ?_)
      · have hf := zif_t hf h14
        refine lv_aload_n hx hb dX7_isAhead_93 rfl (lv_at hl 2 rfl) ?_
        refine zg_7_33 hx hb hts hi7 hown hK hC hk_th w3 dX7_isAhead_94 ?_
        obtain ⟨a8, ea8, hk_a8, hf⟩ := zn_inv hf
        refine z_ref ea8 ?_
        refine lv_iload_n hx hb dX7_isAhead_97 rfl (lv_at hl 3 rfl) ?_
        obtain ⟨hix, hf⟩ := zx_inv hf
        refine xg_133 hx hb hK hC hk_a8 hix dX7_isAhead_98 ?_
        refine lv_aload_n hx hb dX7_isAhead_99 rfl (lv_at hl 2 rfl) ?_
        refine zg_7_33 hx hb hts hi7 hown hK hC hk_th w3 dX7_isAhead_100 ?_
        refine z_ref ea8 ?_
        refine lv_iload_n hx hb dX7_isAhead_103 rfl (lv_at hl 4 rfl) ?_
        obtain ⟨hix, hf⟩ := zx_inv hf
        refine xg_133 hx hb hK hC hk_a8 hix dX7_isAhead_104 ?_
        refine lv_icmp_eq (tgt := 131) hx hb dX7_isAhead_105 (by decide) (fun h12 => ?_) (fun h12 => ?_)
        · have hf := zif_t hf h12
          refine lv_aload_n hx hb dX7_isAhead_131 rfl (lv_at hl 2 rfl) ?_
          refine zg_7_11 hx hb hts hi7 hown hK hC hk_th w4 dX7_isAhead_132 ?_
          obtain ⟨a9, ea9, hk_a9, hf⟩ := zn_inv hf
          refine z_ref ea9 ?_
          refine lv_iload_n hx hb dX7_isAhead_135 rfl (lv_at hl 3 rfl) ?_
          obtain ⟨hix, hf⟩ := zx_inv hf
          refine xg_111 hx hb hK hC hk_a9 hix dX7_isAhead_136 ?_
          refine lv_aload_n hx hb dX7_isAhead_137 rfl (lv_at hl 2 rfl) ?_
          refine zg_7_11 hx hb hts hi7 hown hK hC hk_th w4 dX7_isAhead_138 ?_
          refine z_ref ea9 ?_
          refine lv_iload_n hx hb dX7_isAhead_141 rfl (lv_at hl 4 rfl) ?_
          obtain ⟨hix, hf⟩ := zx_inv hf
          refine xg_111 hx hb hK hC hk_a9 hix dX7_isAhead_142 ?_
          refine lv_icmp_ge (tgt := 150) hx hb dX7_isAhead_143 (by decide) (fun h10 => ?_) (fun h10 => ?_)
          · have hf := zif_t hf h10
            refine lv_iconst (v := 0) hx hb dX7_isAhead_150 (by decide) ?_
            exact z_zret hx hb hr hlocks hC (Or.inl rfl) hf dX7_isAhead_151
          · have hf := zif_f hf h10
            refine lv_iconst (v := 1) hx hb dX7_isAhead_146 (by decide) ?_
            refine lv_goto (tgt := 151) hx hb dX7_isAhead_147 (by decide) ?_
            exact z_zret hx hb hr hlocks hC (Or.inr rfl) hf dX7_isAhead_151
        · have hf := zif_f hf h12
          refine lv_aload_n hx hb dX7_isAhead_108 rfl (lv_at hl 2 rfl) ?_
          refine zg_7_33 hx hb hts hi7 hown hK hC hk_th w3 dX7_isAhead_109 ?_
          refine z_ref ea8 ?_
          refine lv_iload_n hx hb dX7_isAhead_112 rfl (lv_at hl 3 rfl) ?_
          obtain ⟨hix, hf⟩ := zx_inv hf
          refine xg_133 hx hb hK hC hk_a8 hix dX7_isAhead_113 ?_
          refine lv_aload_n hx hb dX7_isAhead_114 rfl (lv_at hl 2 rfl) ?_
          refine zg_7_33 hx hb hts hi7 hown hK hC hk_th w3 dX7_isAhead_115 ?_
          refine z_ref ea8 ?_
          refine lv_iload_n hx hb dX7_isAhead_118 rfl (lv_at hl 4 rfl) ?_
          obtain ⟨hix, hf⟩ := zx_inv hf
          refine xg_133 hx hb hK hC hk_a8 hix dX7_isAhead_119 ?_
          refine lv_icmp_ge (tgt := 127) hx hb dX7_isAhead_120 (by decide) (fun h11 => ?_) (fun h11 => ?_)
          · have hf := zif_t hf h11
            refine lv_iconst (v := 0) hx hb dX7_isAhead_127 (by decide) ?_
            refine lv_goto (tgt := 151) hx hb dX7_isAhead_128 (by decide) ?_
            exact z_zret hx hb hr hlocks hC (Or.inl rfl) hf dX7_isAhead_151
          · have hf := zif_f hf h11
            refine lv_iconst (v := 1) hx hb dX7_isAhead_123 (by decide) ?_
            refine lv_goto (tgt := 151) hx hb dX7_isAhead_124 (by decide) ?_
            exact z_zret hx hb hr hlocks hC (Or.inr rfl) hf dX7_isAhead_151
      · have hf := zif_f hf h14
        refine lv_iload hx hb dX7_isAhead_80 (lv_at hl 1 rfl) ?_
        refine lv_iload hx hb dX7_isAhead_82 (lv_at hl 0 rfl) ?_
        refine lv_icmp_le (tgt := 91) hx hb dX7_isAhead_84 (by decide) (fun h13 => ?_) (fun h13 => ?_)
        · have hf := zif_t hf h13
          refine lv_iconst (v := 0) hx hb dX7_isAhead_91 (by decide) ?_
          exact z_zret hx hb hr hlocks hC (Or.inl rfl) hf dX7_isAhead_92
        · have hf := zif_f hf h13
          refine lv_iconst (v := 1) hx hb dX7_isAhead_87 (by decide) ?_
          refine lv_goto (tgt := 92) hx hb dX7_isAhead_88 (by decide) ?_
          exact z_zret hx hb hr hlocks hC (Or.inr rfl) hf dX7_isAhead_92
    · have hf := zif_f hf h16
      refine lv_iload_n hx hb dX7_isAhead_41 rfl (lv_at hl 3 rfl) ?_
      refine lv_if_ne (tgt := 49) hx hb dX7_isAhead_42 (by decide) (fun h15 => ?_) (fun h15 => ?_)
      · have hf := zif_f hf h15
        refine lv_iconst (v := 0) hx hb dX7_isAhead_49 (by decide) ?_
        exact z_zret hx hb hr hlocks hC (Or.inl rfl) hf dX7_isAhead_50
      · have hf := zif_t hf h15
        refine lv_iconst (v := 1) hx hb dX7_isAhead_45 (by decide) ?_
        refine lv_goto (tgt := 50) hx hb dX7_isAhead_46 (by decide) ?_
        exact z_zret hx hb hr hlocks hC (Or.inr rfl) hf dX7_isAhead_50
  have J18 : ∀ (H : Heap) (locs : List Loc) (ls : Array Slot) (s0 : Int32), zC D cy base K L (c, r, o) s.heap H locs → lv_has ls 6 [(0, .ref th), (1, .int p1), (2, .int p2)] → f_X7_isAhead_18 K z r th p1 p2 s0 = some rv → W p l e (headSpec wsX7_isAhead ({ frames := 1, cells := 0, slots := 0, locals := 22 })).room s m ([.ref th, .int p1, .int p2] : List Value).toArray below meth cd H locs 0 0 (MQ below (va_Qi (fun (rr : Int32) (_ : Unit) => rr = rv) (fun _ => zB D cy base K L (c, r, o)) (zA base)) ([.ref th, .int p1, .int p2] : List Value).toArray s 0 0 (zA base)) (F0 m 18 ls [.int s0]) := by
    intro H locs ls s0 hC hl hf
    unfold f_X7_isAhead_18 at hf
    refine lv_istore_n (lv' := [(3, .int s0), (0, .ref th), (1, .int p1), (2, .int p2)]) hx hb dX7_isAhead_18 rfl hl (by decide) rfl (fun ls hl => ?_)
    refine lv_iload_n hx hb dX7_isAhead_19 rfl (lv_at hl 0 rfl) ?_
    refine lv_aload_n hx hb dX7_isAhead_20 rfl (lv_at hl 1 rfl) ?_
    refine zg_7_34 hx hb hts hi7 hown hK hC hk_th w0 dX7_isAhead_21 ?_
    obtain ⟨a2, ea2, hk_a2, hf⟩ := zn_inv hf
    refine z_ref ea2 ?_
    refine lv_iload_n hx hb dX7_isAhead_24 rfl (lv_at hl 3 rfl) ?_
    obtain ⟨hix, hf⟩ := zx_inv hf
    refine xg_134 hx hb hK hC hk_a2 hix dX7_isAhead_25 ?_
    refine lv_ldc2 (v := 5000) hx hb hown w1 dX7_isAhead_26 ?_
    refine W.lcmp hx hb dX7_isAhead_29 ?_
    refine lv_if_le (tgt := 37) hx hb dX7_isAhead_30 (by decide) (fun h17 => ?_) (fun h17 => ?_)
    · have hf := zif_t hf h17
      refine lv_iconst (v := 0) hx hb dX7_isAhead_37 (by decide) ?_
      exact J38 _ _ _ s0 s0 0 hC (lv_sub hl [1, 2, 3, 0] rfl) hf
    · have hf := zif_f hf h17
      refine lv_iconst (v := 1) hx hb dX7_isAhead_33 (by decide) ?_
      refine lv_goto (tgt := 38) hx hb dX7_isAhead_34 (by decide) ?_
      exact J38 _ _ _ s0 s0 1 hC (lv_sub hl [1, 2, 3, 0] rfl) hf
  unfold f_X7_isAhead at hf
  refine lv_aload_n hx hb dX7_isAhead_0 rfl (lv_at hl 0 rfl) ?_
  refine zg_7_34 hx hb hts hi7 hown hK hC hk_th w0 dX7_isAhead_1 ?_
  obtain ⟨a1, ea1, hk_a1, hf⟩ := zn_inv hf
  refine z_ref ea1 ?_
  refine lv_iload_n hx hb dX7_isAhead_4 rfl (lv_at hl 1 rfl) ?_
  obtain ⟨hix, hf⟩ := zx_inv hf
  refine xg_134 hx hb hK hC hk_a1 hix dX7_isAhead_5 ?_
  refine lv_ldc2 (v := 5000) hx hb hown w1 dX7_isAhead_6 ?_
  refine W.lcmp hx hb dX7_isAhead_9 ?_
  refine lv_if_le (tgt := 17) hx hb dX7_isAhead_10 (by decide) (fun h18 => ?_) (fun h18 => ?_)
  · have hf := zif_t hf h18
    refine lv_iconst (v := 0) hx hb dX7_isAhead_17 (by decide) ?_
    exact J18 _ _ _ 0 hC (lv_sub hl [0, 1, 2] rfl) hf
  · have hf := zif_f hf h18
    refine lv_iconst (v := 1) hx hb dX7_isAhead_13 (by decide) ?_
    refine lv_goto (tgt := 18) hx hb dX7_isAhead_14 (by decide) ?_
    exact J18 _ _ _ 1 hC (lv_sub hl [0, 1, 2] rfl) hf
def f_X7_comesAhead (K : Nat → Nat) (z : Nat) (r : zS) (th : Nat) (p1 : Int32) (p2 : Int32) : Option Int32 :=
  zn K (zr r 23 th 0) 123 fun a1 => zx p1 200 <| zx p2 200 <| (if (zi r 123 a1 (Int32.toNatClampNeg p1)) = (zi r 123 a1 (Int32.toNatClampNeg p2)) then zx p1 200 <| (if (zi r 123 a1 (Int32.toNatClampNeg p1)) = 0 then zb (f_X7_isAhead K z r th p1 p2) fun x3 => zz x3 <| some x3 else zn K (zr r 11 th 0) 111 fun a5 => zx p1 200 <| zx p2 200 <| (if (zi r 111 a5 (Int32.toNatClampNeg p2)) ≤ (zi r 111 a5 (Int32.toNatClampNeg p1)) then some 0 else some 1)) else zx p1 200 <| zz (zi r 123 a1 (Int32.toNatClampNeg p1)) <| some (zi r 123 a1 (Int32.toNatClampNeg p1)))
set_option maxRecDepth 100000 in
set_option maxHeartbeats 4000000 in
theorem c_X7_comesAhead {l : Launch} {D : va_G} {cy : Nat → ClassId} {base : Nat} {st : Nat → Nat} {K : Nat → Nat} {L : List Nat} {c r : zS} {o : Int64} {z : Nat} (th : Nat) (p1 : Int32) (p2 : Int32) {rv : Int32}  (hk_th : K th = 7) (hf : f_X7_comesAhead K z r th p1 p2 = some rv) : Met l yX7_comesAhead wsX7_comesAhead ({ frames := 2, cells := 0, slots := 0, locals := 47 }) (va_Pc [.ref th, .int p1, .int p2] (zGW zts0 zns0 D cy base st K L (c, r, o))) (va_Qi (fun (rr : Int32) (_ : Unit) => rr = rv) (fun _ => zB D cy base K L (c, r, o)) (zA base)) 0 0 (zA base) := by
  refine Met.ofW (cc := cX7_comesAhead) (maxL := 3) (ret := (some .boolean)) (by decide) rfl ?_
  intro p e s m args below meth cd s₁ B hml hv
  obtain ⟨rfl, hG⟩ := hv
  have hx := B.exec
  have hb := B.bytes
  have hr := B.returns
  have hts := atoms_spec (ws := wsX7_comesAhead) B.pre
  have hown : s.vm.findClass RX7 = some m.cls := findClass_of_methodNamed B.named
  have hlocks := B.notSynchronized
  have hC := hG.enter
  have hK := hG.2.2.2.1
  have hi7 : ∀ w ∈ wsX70, w ∈ wsX7_comesAhead := by decide +kernel
  have w0 := hts (.fieldLink RX7 75 "MarketSquareModel" "slighted" "[Z") (by decide +kernel)
  have w1 := hts (.fieldLink RX7 39 "MarketSquareModel" "rank" "[I") (by decide +kernel)
  have hl := lv_entry ([.ref th, .int p1, .int p2]) (n := 3) (Nat.le_of_ble_eq_true rfl)
  rw [lg_entry_eq]
  generalize (lg_sl ([.ref th, .int p1, .int p2]) ++ List.replicate (3 - (lg_sl ([.ref th, .int p1, .int p2])).length) Slot.unset).toArray = ls at hl ⊢
  have hl : lv_has ls 3 [(0, .ref th), (1, .int p1), (2, .int p2)] := hl
  unfold f_X7_comesAhead at hf
  refine lv_aload_n hx hb dX7_comesAhead_0 rfl (lv_at hl 0 rfl) ?_
  refine zg_7_23 hx hb hts hi7 hown hK hC hk_th w0 dX7_comesAhead_1 ?_
  obtain ⟨a1, ea1, hk_a1, hf⟩ := zn_inv hf
  refine z_ref ea1 ?_
  refine lv_iload_n hx hb dX7_comesAhead_4 rfl (lv_at hl 1 rfl) ?_
  obtain ⟨hix, hf⟩ := zx_inv hf
  refine xg_123 hx hb hK hC hk_a1 hix dX7_comesAhead_5 ?_
  refine lv_aload_n hx hb dX7_comesAhead_6 rfl (lv_at hl 0 rfl) ?_
  refine zg_7_23 hx hb hts hi7 hown hK hC hk_th w0 dX7_comesAhead_7 ?_
  refine z_ref ea1 ?_
  refine lv_iload_n hx hb dX7_comesAhead_10 rfl (lv_at hl 2 rfl) ?_
  obtain ⟨hix, hf⟩ := zx_inv hf
  refine xg_123 hx hb hK hC hk_a1 hix dX7_comesAhead_11 ?_
  refine lv_icmp_eq (tgt := 22) hx hb dX7_comesAhead_12 (by decide) (fun h9 => ?_) (fun h9 => ?_)
  · have hf := zif_t hf h9
    refine lv_aload_n hx hb dX7_comesAhead_22 rfl (lv_at hl 0 rfl) ?_
    refine zg_7_23 hx hb hts hi7 hown hK hC hk_th w0 dX7_comesAhead_23 ?_
    refine z_ref ea1 ?_
    refine lv_iload_n hx hb dX7_comesAhead_26 rfl (lv_at hl 1 rfl) ?_
    obtain ⟨hix, hf⟩ := zx_inv hf
    refine xg_123 hx hb hK hC hk_a1 hix dX7_comesAhead_27 ?_
    refine lv_if_eq (tgt := 54) hx hb dX7_comesAhead_28 (by decide) (fun h7 => ?_) (fun h7 => ?_)
    · have hf := zif_t hf h7
      refine lv_aload_n hx hb dX7_comesAhead_54 rfl (lv_at hl 0 rfl) ?_
      refine lv_iload_n hx hb dX7_comesAhead_55 rfl (lv_at hl 1 rfl) ?_
      refine lv_iload_n hx hb dX7_comesAhead_56 rfl (lv_at hl 2 rfl) ?_
      obtain ⟨x3, hc2, hf⟩ := zb_inv hf
      refine z_ci (z_rV (As := [.int p1, .int p2]) (rest := []) ⟨hx, hb, hml, hown, hts⟩ (c_X7_isAhead (l := l) (D := D) (cy := cy) (base := base) (st := st) (K := K) (L := L) (c := c) (r := r) (o := o) (z := z) th p1 p2 hk_th hc2) (cwV 2 hts gX7_comesAhead_X7_isAhead rfl rfl rfl (by decide +kernel) ⟨Nat.le_of_ble_eq_true rfl, Nat.le_of_ble_eq_true rfl⟩) hG hC (zC.recv (ci := 7) (fs := _) hK hC (by rw [hk_th]; decide) (by rw [hk_th]; exact zc_7 cy _ _) rfl) rfl hl.1 rfl (lv_room (Nat.le_of_ble_eq_true rfl)) dX7_comesAhead_57 ⟨Nat.le_of_ble_eq_true rfl, Nat.le_of_ble_eq_true rfl⟩) hC (fun H locs hC => ?_)
      obtain ⟨hz4, hf⟩ := zz_inv hf
      exact z_zret hx hb hr hlocks hC hz4 hf dX7_comesAhead_60
    · have hf := zif_f hf h7
      refine lv_aload_n hx hb dX7_comesAhead_31 rfl (lv_at hl 0 rfl) ?_
      refine zg_7_11 hx hb hts hi7 hown hK hC hk_th w1 dX7_comesAhead_32 ?_
      obtain ⟨a5, ea5, hk_a5, hf⟩ := zn_inv hf
      refine z_ref ea5 ?_
      refine lv_iload_n hx hb dX7_comesAhead_35 rfl (lv_at hl 1 rfl) ?_
      obtain ⟨hix, hf⟩ := zx_inv hf
      refine xg_111 hx hb hK hC hk_a5 hix dX7_comesAhead_36 ?_
      refine lv_aload_n hx hb dX7_comesAhead_37 rfl (lv_at hl 0 rfl) ?_
      refine zg_7_11 hx hb hts hi7 hown hK hC hk_th w1 dX7_comesAhead_38 ?_
      refine z_ref ea5 ?_
      refine lv_iload_n hx hb dX7_comesAhead_41 rfl (lv_at hl 2 rfl) ?_
      obtain ⟨hix, hf⟩ := zx_inv hf
      refine xg_111 hx hb hK hC hk_a5 hix dX7_comesAhead_42 ?_
      refine lv_icmp_ge (tgt := 50) hx hb dX7_comesAhead_43 (by decide) (fun h6 => ?_) (fun h6 => ?_)
      · have hf := zif_t hf h6
        refine lv_iconst (v := 0) hx hb dX7_comesAhead_50 (by decide) ?_
        refine lv_goto (tgt := 60) hx hb dX7_comesAhead_51 (by decide) ?_
        exact z_zret hx hb hr hlocks hC (Or.inl rfl) hf dX7_comesAhead_60
      · have hf := zif_f hf h6
        refine lv_iconst (v := 1) hx hb dX7_comesAhead_46 (by decide) ?_
        refine lv_goto (tgt := 60) hx hb dX7_comesAhead_47 (by decide) ?_
        exact z_zret hx hb hr hlocks hC (Or.inr rfl) hf dX7_comesAhead_60
  · have hf := zif_f hf h9
    refine lv_aload_n hx hb dX7_comesAhead_15 rfl (lv_at hl 0 rfl) ?_
    refine zg_7_23 hx hb hts hi7 hown hK hC hk_th w0 dX7_comesAhead_16 ?_
    refine z_ref ea1 ?_
    refine lv_iload_n hx hb dX7_comesAhead_19 rfl (lv_at hl 1 rfl) ?_
    obtain ⟨hix, hf⟩ := zx_inv hf
    refine xg_123 hx hb hK hC hk_a1 hix dX7_comesAhead_20 ?_
    obtain ⟨hz8, hf⟩ := zz_inv hf
    exact z_zret hx hb hr hlocks hC hz8 hf dX7_comesAhead_21
def f_X7_lines_98 (K : Nat → Nat) (z : Nat) (th : Nat) (rec7 : (zS → Int32 → Option zS)) (rec58 : (zS → Int32 → Int32 → Option zS)) (rA : zS) (v1 : Int32) (v2 : Int32) : Option zS :=
  zn K (zr rA 47 th 0) 147 fun a8 => zx v2 200 <| zlet (zui rA 147 a8 (Int32.toNatClampNeg v2) v1) fun r9 => zlet (zui r9 48 th 0 ((zi r9 48 th 0) + 1)) fun r10 => zlet (v1 + 1) fun x11 => rec7 r10 x11
def f_X7_lines_58 (K : Nat → Nat) (z : Nat) (th : Nat) (rec7 : (zS → Int32 → Option zS)) : Nat → zS → Int32 → Int32 → Option zS
  | 0, _, _, _ => none
  | n + 1, rA, v1, v2 =>
    (if v2 ≤ 0 then f_X7_lines_98 K z th rec7 (f_X7_lines_58 K z th rec7 n) rA v1 v2 else zn K (zr rA 47 th 0) 147 fun a12 => zx (v2 - 1) 200 <| zb (f_X7_comesAhead K z rA th v1 (zi rA 147 a12 (Int32.toNatClampNeg (v2 - 1)))) fun x14 => (if x14 = 0 then f_X7_lines_98 K z th rec7 (f_X7_lines_58 K z th rec7 n) rA v1 v2 else zx (v2 - 1) 200 <| zx v2 200 <| zlet (zui rA 147 a12 (Int32.toNatClampNeg v2) (zi rA 147 a12 (Int32.toNatClampNeg (v2 - 1)))) fun r15 => zlet (v2 + (-1)) fun x16 => f_X7_lines_58 K z th rec7 n r15 v1 x16))
def f_X7_lines_7 (K : Nat → Nat) (z : Nat) (th : Nat) : Nat → zS → Int32 → Option zS
  | 0, _, _ => none
  | n + 1, rA, v1 =>
    (if (zi rA 35 th 0) ≤ v1 then some rA else (if (zi rA 37 th 0) = 3 then zn K (zr rA 21 th 0) 121 fun a2 => zx v1 200 <| (if (zi rA 121 a2 (Int32.toNatClampNeg v1)) = 0 then zlet (v1 + 1) fun x3 => f_X7_lines_7 K z th n rA x3 else zn K (zr rA 27 th 0) 127 fun a4 => zx v1 200 <| (if (zi rA 127 a4 (Int32.toNatClampNeg v1)) = 0 then zn K (zr rA 25 th 0) 125 fun a6 => zx v1 200 <| (if (zi rA 125 a6 (Int32.toNatClampNeg v1)) = 0 then zlet (zi rA 48 th 0) fun x7 => f_X7_lines_58 K z th (f_X7_lines_7 K z th n) z rA v1 x7 else zlet (v1 + 1) fun x19 => f_X7_lines_7 K z th n rA x19) else zlet (v1 + 1) fun x5 => f_X7_lines_7 K z th n rA x5)) else some rA))
def f_X7_lines (K : Nat → Nat) (z : Nat) (r : zS) (th : Nat) : Option zS :=
  zlet (zui r 48 th 0 0) fun r1 => f_X7_lines_7 K z th z r1 0
set_option maxRecDepth 100000 in
set_option maxHeartbeats 4000000 in
theorem c_X7_lines {l : Launch} {D : va_G} {cy : Nat → ClassId} {base : Nat} {st : Nat → Nat} {K : Nat → Nat} {L : List Nat} {c r : zS} {o : Int64} {z : Nat} (th : Nat) {rf : zS}  (hk_th : K th = 7) (hf : f_X7_lines K z r th = some rf) : Met l yX7_lines wsX7_lines ({ frames := 3, cells := 0, slots := 0, locals := 69 }) (va_Pc [.ref th] (zGW zts0 zns0 D cy base st K L (c, r, o))) (va_Qv (fun (_ : Unit) => True) (fun _ => zB D cy base K L (c, rf, o)) (zA base)) 0 0 (zA base) := by
  refine Met.ofW (cc := cX7_lines) (maxL := 3) (ret := none) (by decide) rfl ?_
  intro p e s m args below meth cd s₁ B hml hv
  obtain ⟨rfl, hG⟩ := hv
  have hx := B.exec
  have hb := B.bytes
  have hr := B.returns
  have hts := atoms_spec (ws := wsX7_lines) B.pre
  have hown : s.vm.findClass RX7 = some m.cls := findClass_of_methodNamed B.named
  have hlocks := B.notSynchronized
  have hC := hG.enter
  have hK := hG.2.2.2.1
  have hi7 : ∀ w ∈ wsX70, w ∈ wsX7_lines := by decide +kernel
  have w0 := hts (.fieldLink RX7 211 "MarketSquareModel" "rowMany" "I") (by decide +kernel)
  have w1 := hts (.fieldLink RX7 131 "MarketSquareModel" "traders" "I") (by decide +kernel)
  have w2 := hts (.fieldLink RX7 214 "MarketSquareModel" "time" "I") (by decide +kernel)
  have w3 := hts (.fieldLink RX7 69 "MarketSquareModel" "isThere" "[Z") (by decide +kernel)
  have w4 := hts (.fieldLink RX7 87 "MarketSquareModel" "stands" "[Z") (by decide +kernel)
  have w5 := hts (.fieldLink RX7 81 "MarketSquareModel" "hasLeft" "[Z") (by decide +kernel)
  have w6 := hts (.fieldLink RX7 118 "MarketSquareModel" "row" "[I") (by decide +kernel)
  have hl := lv_entry ([.ref th]) (n := 3) (Nat.le_of_ble_eq_true rfl)
  rw [lg_entry_eq]
  generalize (lg_sl ([.ref th]) ++ List.replicate (3 - (lg_sl ([.ref th])).length) Slot.unset).toArray = ls at hl ⊢
  have hl : lv_has ls 3 [(0, .ref th)] := hl
  have L7 : ∀ (n7 : Nat) (rA : zS) (H : Heap) (locs : List Loc) (ls : Array Slot) (v1 : Int32), zC D cy base K L (c, rA, o) s.heap H locs → lv_has ls 3 [(0, .ref th), (1, .int v1)] → f_X7_lines_7 K z th n7 rA v1 = some rf → W p l e (headSpec wsX7_lines ({ frames := 3, cells := 0, slots := 0, locals := 69 })).room s m ([.ref th] : List Value).toArray below meth cd H locs 0 0 (MQ below (va_Qv (fun (_ : Unit) => True) (fun _ => zB D cy base K L (c, rf, o)) (zA base)) ([.ref th] : List Value).toArray s 0 0 (zA base)) (F0 m 7 ls []) := by
    intro n7
    induction n7 with
    | zero => intro rA H locs ls v1 hC hl hf; rw [f_X7_lines_7] at hf; cases hf
    | succ n7 ih7 =>
      intro rA H locs ls v1 hC hl hf
      rw [f_X7_lines_7] at hf
      have L58 : ∀ (n58 : Nat) (rA : zS) (H : Heap) (locs : List Loc) (ls : Array Slot) (v1 : Int32) (v2 : Int32), zC D cy base K L (c, rA, o) s.heap H locs → lv_has ls 3 [(0, .ref th), (1, .int v1), (2, .int v2)] → f_X7_lines_58 K z th (f_X7_lines_7 K z th n7) n58 rA v1 v2 = some rf → W p l e (headSpec wsX7_lines ({ frames := 3, cells := 0, slots := 0, locals := 69 })).room s m ([.ref th] : List Value).toArray below meth cd H locs 0 0 (MQ below (va_Qv (fun (_ : Unit) => True) (fun _ => zB D cy base K L (c, rf, o)) (zA base)) ([.ref th] : List Value).toArray s 0 0 (zA base)) (F0 m 58 ls []) := by
        intro n58
        induction n58 with
        | zero => intro rA H locs ls v1 v2 hC hl hf; rw [f_X7_lines_58] at hf; cases hf
        | succ n58 ih58 =>
          intro rA H locs ls v1 v2 hC hl hf
          rw [f_X7_lines_58] at hf
          have J98 : ∀ (rA : zS) (H : Heap) (locs : List Loc) (ls : Array Slot) (v1 : Int32) (v2 : Int32), zC D cy base K L (c, rA, o) s.heap H locs → lv_has ls 3 [(0, .ref th), (1, .int v1), (2, .int v2)] → f_X7_lines_98 K z th (f_X7_lines_7 K z th n7) (f_X7_lines_58 K z th (f_X7_lines_7 K z th n7) n58) rA v1 v2 = some rf → W p l e (headSpec wsX7_lines ({ frames := 3, cells := 0, slots := 0, locals := 69 })).room s m ([.ref th] : List Value).toArray below meth cd H locs 0 0 (MQ below (va_Qv (fun (_ : Unit) => True) (fun _ => zB D cy base K L (c, rf, o)) (zA base)) ([.ref th] : List Value).toArray s 0 0 (zA base)) (F0 m 98 ls []) := by
            intro rA H locs ls v1 v2 hC hl hf
            unfold f_X7_lines_98 at hf
            refine lv_aload_n hx hb dX7_lines_98 rfl (lv_at hl 0 rfl) ?_
            refine zg_7_47 hx hb hts hi7 hown hK hC hk_th w6 dX7_lines_99 ?_
            obtain ⟨a8, ea8, hk_a8, hf⟩ := zn_inv hf
            refine z_ref ea8 ?_
            refine lv_iload_n hx hb dX7_lines_102 rfl (lv_at hl 2 rfl) ?_
            refine lv_iload_n hx hb dX7_lines_103 rfl (lv_at hl 1 rfl) ?_
            obtain ⟨hix, hf⟩ := zx_inv hf
            obtain ⟨r9, er9, hf⟩ := zlet_inv hf
            refine xp_147 hx hb hK hC hk_a8 hix er9 dX7_lines_104 (fun H locs hC => ?_)
            refine lv_aload_n hx hb dX7_lines_105 rfl (lv_at hl 0 rfl) ?_
            refine lv_dup hx hb dX7_lines_106 rfl ?_
            refine zg_7_48 hx hb hts hi7 hown hK hC hk_th w0 dX7_lines_107 ?_
            refine lv_iconst (v := 1) hx hb dX7_lines_110 (by decide) ?_
            refine lv_iadd hx hb dX7_lines_111 ?_
            obtain ⟨r10, er10, hf⟩ := zlet_inv hf
            refine zp_7_48 hx hb hts hi7 hown hK hC hk_th w0 er10 dX7_lines_112 (fun H locs hC => ?_)
            obtain ⟨x11, ex11, hf⟩ := zlet_inv hf
            refine lv_iinc (v := x11) (lv' := [(1, .int x11), (0, .ref th), (2, .int v2)]) hx hb dX7_lines_115 hl (k := 1) rfl (by rw [ex11]; rfl) (by decide) rfl (fun ls hl => ?_)
            refine lv_goto (tgt := 7) hx hb dX7_lines_118 (by decide) ?_
            exact ih7 _ _ _ _ x11 hC (lv_sub hl [1, 0] rfl) hf
          refine lv_iload_n hx hb dX7_lines_58 rfl (lv_at hl 2 rfl) ?_
          refine lv_if_le (tgt := 98) hx hb dX7_lines_59 (by decide) (fun h18 => ?_) (fun h18 => ?_)
          · have hf := zif_t hf h18
            exact J98 _ _ _ _ v1 v2 hC (lv_sub hl [0, 1, 2] rfl) hf
          · have hf := zif_f hf h18
            refine lv_aload_n hx hb dX7_lines_62 rfl (lv_at hl 0 rfl) ?_
            refine lv_iload_n hx hb dX7_lines_63 rfl (lv_at hl 1 rfl) ?_
            refine lv_aload_n hx hb dX7_lines_64 rfl (lv_at hl 0 rfl) ?_
            refine zg_7_47 hx hb hts hi7 hown hK hC hk_th w6 dX7_lines_65 ?_
            obtain ⟨a12, ea12, hk_a12, hf⟩ := zn_inv hf
            refine z_ref ea12 ?_
            refine lv_iload_n hx hb dX7_lines_68 rfl (lv_at hl 2 rfl) ?_
            refine lv_iconst (v := 1) hx hb dX7_lines_69 (by decide) ?_
            refine lv_isub hx hb dX7_lines_70 ?_
            obtain ⟨hix, hf⟩ := zx_inv hf
            refine xg_147 hx hb hK hC hk_a12 hix dX7_lines_71 ?_
            obtain ⟨x14, hc13, hf⟩ := zb_inv hf
            refine z_ci (z_rV (As := [.int v1, .int (zi rA 147 a12 (Int32.toNatClampNeg (v2 - 1)))]) (rest := []) ⟨hx, hb, hml, hown, hts⟩ (c_X7_comesAhead (l := l) (D := D) (cy := cy) (base := base) (st := st) (K := K) (L := L) (c := c) (r := rA) (o := o) (z := z) th v1 (zi rA 147 a12 (Int32.toNatClampNeg (v2 - 1))) hk_th hc13) (cwV 2 hts gX7_lines_X7_comesAhead rfl rfl rfl (by decide +kernel) ⟨Nat.le_of_ble_eq_true rfl, Nat.le_of_ble_eq_true rfl⟩) hG hC (zC.recv (ci := 7) (fs := _) hK hC (by rw [hk_th]; decide) (by rw [hk_th]; exact zc_7 cy _ _) rfl) rfl hl.1 rfl (lv_room (Nat.le_of_ble_eq_true rfl)) dX7_lines_72 ⟨Nat.le_of_ble_eq_true rfl, Nat.le_of_ble_eq_true rfl⟩) hC (fun H locs hC => ?_)
            refine lv_if_eq (tgt := 98) hx hb dX7_lines_75 (by decide) (fun h17 => ?_) (fun h17 => ?_)
            · have hf := zif_t hf h17
              exact J98 _ _ _ _ v1 v2 hC (lv_sub hl [0, 1, 2] rfl) hf
            · have hf := zif_f hf h17
              refine lv_aload_n hx hb dX7_lines_78 rfl (lv_at hl 0 rfl) ?_
              refine zg_7_47 hx hb hts hi7 hown hK hC hk_th w6 dX7_lines_79 ?_
              refine z_ref ea12 ?_
              refine lv_iload_n hx hb dX7_lines_82 rfl (lv_at hl 2 rfl) ?_
              refine lv_aload_n hx hb dX7_lines_83 rfl (lv_at hl 0 rfl) ?_
              refine zg_7_47 hx hb hts hi7 hown hK hC hk_th w6 dX7_lines_84 ?_
              refine z_ref ea12 ?_
              refine lv_iload_n hx hb dX7_lines_87 rfl (lv_at hl 2 rfl) ?_
              refine lv_iconst (v := 1) hx hb dX7_lines_88 (by decide) ?_
              refine lv_isub hx hb dX7_lines_89 ?_
              obtain ⟨hix, hf⟩ := zx_inv hf
              refine xg_147 hx hb hK hC hk_a12 hix dX7_lines_90 ?_
              obtain ⟨hix, hf⟩ := zx_inv hf
              obtain ⟨r15, er15, hf⟩ := zlet_inv hf
              refine xp_147 hx hb hK hC hk_a12 hix er15 dX7_lines_91 (fun H locs hC => ?_)
              obtain ⟨x16, ex16, hf⟩ := zlet_inv hf
              refine lv_iinc (v := x16) (lv' := [(2, .int x16), (0, .ref th), (1, .int v1)]) hx hb dX7_lines_92 hl (k := 2) rfl (by rw [ex16]; rfl) (by decide) rfl (fun ls hl => ?_)
              refine lv_goto (tgt := 58) hx hb dX7_lines_95 (by decide) ?_
              exact ih58 _ _ _ _ v1 x16 hC (lv_sub hl [1, 2, 0] rfl) hf
      refine lv_iload_n hx hb dX7_lines_7 rfl (lv_at hl 1 rfl) ?_
      refine lv_aload_n hx hb dX7_lines_8 rfl (lv_at hl 0 rfl) ?_
      refine zg_7_35 hx hb hts hi7 hown hK hC hk_th w1 dX7_lines_9 ?_
      refine lv_icmp_ge (tgt := 121) hx hb dX7_lines_12 (by decide) (fun h24 => ?_) (fun h24 => ?_)
      · have hf := zif_t hf h24
        exact z_vretM hx hb hr hlocks hC hf dX7_lines_121
      · have hf := zif_f hf h24
        refine lv_aload_n hx hb dX7_lines_15 rfl (lv_at hl 0 rfl) ?_
        refine zg_7_37 hx hb hts hi7 hown hK hC hk_th w2 dX7_lines_16 ?_
        refine lv_iconst (v := 3) hx hb dX7_lines_19 (by decide) ?_
        refine lv_icmp_ne (tgt := 121) hx hb dX7_lines_20 (by decide) (fun h23 => ?_) (fun h23 => ?_)
        · have hf := zif_f hf h23
          exact z_vretM hx hb hr hlocks hC hf dX7_lines_121
        · have hf := zif_t hf h23
          refine lv_aload_n hx hb dX7_lines_23 rfl (lv_at hl 0 rfl) ?_
          refine zg_7_21 hx hb hts hi7 hown hK hC hk_th w3 dX7_lines_24 ?_
          obtain ⟨a2, ea2, hk_a2, hf⟩ := zn_inv hf
          refine z_ref ea2 ?_
          refine lv_iload_n hx hb dX7_lines_27 rfl (lv_at hl 1 rfl) ?_
          obtain ⟨hix, hf⟩ := zx_inv hf
          refine xg_121 hx hb hK hC hk_a2 hix dX7_lines_28 ?_
          refine lv_if_eq (tgt := 115) hx hb dX7_lines_29 (by decide) (fun h22 => ?_) (fun h22 => ?_)
          · have hf := zif_t hf h22
            obtain ⟨x3, ex3, hf⟩ := zlet_inv hf
            refine lv_iinc (v := x3) (lv' := [(1, .int x3), (0, .ref th)]) hx hb dX7_lines_115 hl (k := 1) rfl (by rw [ex3]; rfl) (by decide) rfl (fun ls hl => ?_)
            refine lv_goto (tgt := 7) hx hb dX7_lines_118 (by decide) ?_
            exact ih7 _ _ _ _ x3 hC (lv_sub hl [1, 0] rfl) hf
          · have hf := zif_f hf h22
            refine lv_aload_n hx hb dX7_lines_32 rfl (lv_at hl 0 rfl) ?_
            refine zg_7_27 hx hb hts hi7 hown hK hC hk_th w4 dX7_lines_33 ?_
            obtain ⟨a4, ea4, hk_a4, hf⟩ := zn_inv hf
            refine z_ref ea4 ?_
            refine lv_iload_n hx hb dX7_lines_36 rfl (lv_at hl 1 rfl) ?_
            obtain ⟨hix, hf⟩ := zx_inv hf
            refine xg_127 hx hb hK hC hk_a4 hix dX7_lines_37 ?_
            refine lv_if_ne (tgt := 115) hx hb dX7_lines_38 (by decide) (fun h21 => ?_) (fun h21 => ?_)
            · have hf := zif_f hf h21
              obtain ⟨x5, ex5, hf⟩ := zlet_inv hf
              refine lv_iinc (v := x5) (lv' := [(1, .int x5), (0, .ref th)]) hx hb dX7_lines_115 hl (k := 1) rfl (by rw [ex5]; rfl) (by decide) rfl (fun ls hl => ?_)
              refine lv_goto (tgt := 7) hx hb dX7_lines_118 (by decide) ?_
              exact ih7 _ _ _ _ x5 hC (lv_sub hl [1, 0] rfl) hf
            · have hf := zif_t hf h21
              refine lv_aload_n hx hb dX7_lines_41 rfl (lv_at hl 0 rfl) ?_
              refine zg_7_25 hx hb hts hi7 hown hK hC hk_th w5 dX7_lines_42 ?_
              obtain ⟨a6, ea6, hk_a6, hf⟩ := zn_inv hf
              refine z_ref ea6 ?_
              refine lv_iload_n hx hb dX7_lines_45 rfl (lv_at hl 1 rfl) ?_
              obtain ⟨hix, hf⟩ := zx_inv hf
              refine xg_125 hx hb hK hC hk_a6 hix dX7_lines_46 ?_
              refine lv_if_eq (tgt := 53) hx hb dX7_lines_47 (by decide) (fun h20 => ?_) (fun h20 => ?_)
              · have hf := zif_t hf h20
                refine lv_aload_n hx hb dX7_lines_53 rfl (lv_at hl 0 rfl) ?_
                refine zg_7_48 hx hb hts hi7 hown hK hC hk_th w0 dX7_lines_54 ?_
                obtain ⟨x7, ex7, hf⟩ := zlet_inv hf
                refine z_name ex7 ?_
                refine lv_istore_n (lv' := [(2, .int x7), (0, .ref th), (1, .int v1)]) hx hb dX7_lines_57 rfl hl (by decide) rfl (fun ls hl => ?_)
                exact L58 z _ _ _ _ v1 x7 hC (lv_sub hl [1, 2, 0] rfl) hf
              · have hf := zif_f hf h20
                refine lv_goto (tgt := 115) hx hb dX7_lines_50 (by decide) ?_
                obtain ⟨x19, ex19, hf⟩ := zlet_inv hf
                refine lv_iinc (v := x19) (lv' := [(1, .int x19), (0, .ref th)]) hx hb dX7_lines_115 hl (k := 1) rfl (by rw [ex19]; rfl) (by decide) rfl (fun ls hl => ?_)
                refine lv_goto (tgt := 7) hx hb dX7_lines_118 (by decide) ?_
                exact ih7 _ _ _ _ x19 hC (lv_sub hl [1, 0] rfl) hf
  unfold f_X7_lines at hf
  refine lv_aload_n hx hb dX7_lines_0 rfl (lv_at hl 0 rfl) ?_
  refine lv_iconst (v := 0) hx hb dX7_lines_1 (by decide) ?_
  obtain ⟨r1, er1, hf⟩ := zlet_inv hf
  refine zp_7_48 hx hb hts hi7 hown hK hC hk_th w0 er1 dX7_lines_2 (fun H locs hC => ?_)
  refine lv_iconst (v := 0) hx hb dX7_lines_5 (by decide) ?_
  refine lv_istore_n (lv' := [(1, .int 0), (0, .ref th)]) hx hb dX7_lines_6 rfl hl (by decide) rfl (fun ls hl => ?_)
  exact L7 z _ _ _ _ 0 hC (lv_sub hl [1, 0] rfl) hf
def f_X7_next_34 (K : Nat → Nat) (z : Nat) (th : Nat) : Nat → zS → Int32 → Option (Int32 × zS)
  | 0, _, _ => none
  | n + 1, rA, v1 =>
    (if (zi rA 48 th 0) ≤ v1 then some ((-1), rA) else zn K (zr rA 47 th 0) 147 fun a8 => zx v1 200 <| zlet (zi rA 147 a8 (Int32.toNatClampNeg v1)) fun x9 => zb2 (f_X7_goodSpot K z rA th x9) fun x11 r12 => (if x11 < 0 then zn K (zr r12 24 th 0) 124 fun a13 => zx x9 200 <| zlet (zui r12 124 a13 (Int32.toNatClampNeg x9) 1) fun r14 => zlet (v1 + 1) fun x15 => f_X7_next_34 K z th n r14 x15 else zb (f_X7_comes K z r12 th x9 (x11 / 200) (x11 - x11 / 200 * 200)) fun r18 => some (x9, r18)))
def f_X7_next_19 (K : Nat → Nat) (z : Nat) (th : Nat) (rA : zS) (s0 : Nat) (s1 : Int32) : Option (Int32 × zS) :=
  zb2 (f_X7_throwsIf K z rA s0 s1 1) fun x3 r4 => (if x3 = 0 then zb (f_X7_lines K z r4 th) fun r7 => f_X7_next_34 K z th z r7 0 else some (0, r4))
def f_X7_next (K : Nat → Nat) (z : Nat) (r : zS) (th : Nat) : Option (Int32 × zS) :=
  zlet (zui r 0 th 0 0) fun r1 => (if (zi r1 37 th 0) = 3 then f_X7_next_19 K z th r1 th 0 else f_X7_next_19 K z th r1 th 1)
set_option maxRecDepth 100000 in
set_option maxHeartbeats 4000000 in
theorem c_X7_next {l : Launch} {D : va_G} {cy : Nat → ClassId} {base : Nat} {st : Nat → Nat} {K : Nat → Nat} {L : List Nat} {c r : zS} {o : Int64} {z : Nat} (th : Nat) {rv : Int32} {rf : zS}  (hk_th : K th = 7) (hf : f_X7_next K z r th = some (rv, rf)) : Met l yX7_next wsX7_next ({ frames := 8, cells := 0, slots := 0, locals := 192 }) (va_Pc [.ref th] (zGW zts0 zns0 D cy base st K L (c, r, o))) (va_Qi (fun (rr : Int32) (_ : Unit) => rr = rv) (fun _ => zB D cy base K L (c, rf, o)) (zA base)) 0 0 (zA base) := by
  refine Met.ofW (cc := cX7_next) (maxL := 4) (ret := (some .int)) (by decide) rfl ?_
  intro p e s m args below meth cd s₁ B hml hv
  obtain ⟨rfl, hG⟩ := hv
  have hx := B.exec
  have hb := B.bytes
  have hr := B.returns
  have hts := atoms_spec (ws := wsX7_next) B.pre
  have hown : s.vm.findClass RX7 = some m.cls := findClass_of_methodNamed B.named
  have hlocks := B.notSynchronized
  have hC := hG.enter
  have hK := hG.2.2.2.1
  have hi7 : ∀ w ∈ wsX70, w ∈ wsX7_next := by decide +kernel
  have w0 := hts (.fieldLink RX7 127 "MarketSquareModel" "thrown" "I") (by decide +kernel)
  have w1 := hts (.fieldLink RX7 214 "MarketSquareModel" "time" "I") (by decide +kernel)
  have w2 := hts (.fieldLink RX7 211 "MarketSquareModel" "rowMany" "I") (by decide +kernel)
  have w3 := hts (.fieldLink RX7 118 "MarketSquareModel" "row" "[I") (by decide +kernel)
  have w4 := hts (.fieldLink RX7 78 "MarketSquareModel" "passed" "[Z") (by decide +kernel)
  have hl := lv_entry ([.ref th]) (n := 4) (Nat.le_of_ble_eq_true rfl)
  rw [lg_entry_eq]
  generalize (lg_sl ([.ref th]) ++ List.replicate (4 - (lg_sl ([.ref th])).length) Slot.unset).toArray = ls at hl ⊢
  have hl : lv_has ls 4 [(0, .ref th)] := hl
  have L34 : ∀ (n34 : Nat) (rA : zS) (H : Heap) (locs : List Loc) (ls : Array Slot) (v1 : Int32), zC D cy base K L (c, rA, o) s.heap H locs → lv_has ls 4 [(0, .ref th), (1, .int v1)] → f_X7_next_34 K z th n34 rA v1 = some (rv, rf) → W p l e (headSpec wsX7_next ({ frames := 8, cells := 0, slots := 0, locals := 192 })).room s m ([.ref th] : List Value).toArray below meth cd H locs 0 0 (MQ below (va_Qi (fun (rr : Int32) (_ : Unit) => rr = rv) (fun _ => zB D cy base K L (c, rf, o)) (zA base)) ([.ref th] : List Value).toArray s 0 0 (zA base)) (F0 m 34 ls []) := by
    intro n34
    induction n34 with
    | zero => intro rA H locs ls v1 hC hl hf; rw [f_X7_next_34] at hf; cases hf
    | succ n34 ih34 =>
      intro rA H locs ls v1 hC hl hf
      rw [f_X7_next_34] at hf
      refine lv_iload_n hx hb dX7_next_34 rfl (lv_at hl 1 rfl) ?_
      refine lv_aload_n hx hb dX7_next_35 rfl (lv_at hl 0 rfl) ?_
      refine zg_7_48 hx hb hts hi7 hown hK hC hk_th w2 dX7_next_36 ?_
      refine lv_icmp_ge (tgt := 89) hx hb dX7_next_39 (by decide) (fun h20 => ?_) (fun h20 => ?_)
      · have hf := zif_t hf h20
        refine lv_iconst (v := (-1)) hx hb dX7_next_89 (by decide) ?_
        exact z_iretM hx hb hr hlocks hC hf dX7_next_90
      · have hf := zif_f hf h20
        refine lv_aload_n hx hb dX7_next_42 rfl (lv_at hl 0 rfl) ?_
        refine zg_7_47 hx hb hts hi7 hown hK hC hk_th w3 dX7_next_43 ?_
        obtain ⟨a8, ea8, hk_a8, hf⟩ := zn_inv hf
        refine z_ref ea8 ?_
        refine lv_iload_n hx hb dX7_next_46 rfl (lv_at hl 1 rfl) ?_
        obtain ⟨hix, hf⟩ := zx_inv hf
        refine xg_147 hx hb hK hC hk_a8 hix dX7_next_47 ?_
        obtain ⟨x9, ex9, hf⟩ := zlet_inv hf
        refine z_name ex9 ?_
        refine lv_istore_n (lv' := [(2, .int x9), (0, .ref th), (1, .int v1)]) hx hb dX7_next_48 rfl hl (by decide) rfl (fun ls hl => ?_)
        refine lv_aload_n hx hb dX7_next_49 rfl (lv_at hl 1 rfl) ?_
        refine lv_iload_n hx hb dX7_next_50 rfl (lv_at hl 0 rfl) ?_
        obtain ⟨x11, r12, hc10, hf⟩ := zb2_inv hf
        refine z_ci (z_rV (As := [.int x9]) (rest := []) ⟨hx, hb, hml, hown, hts⟩ (c_X7_goodSpot (l := l) (D := D) (cy := cy) (base := base) (st := st) (K := K) (L := L) (c := c) (r := rA) (o := o) (z := z) th x9 hk_th hc10) (cwV 1 hts gX7_next_X7_goodSpot rfl rfl rfl (by decide +kernel) ⟨Nat.le_of_ble_eq_true rfl, Nat.le_of_ble_eq_true rfl⟩) hG hC (zC.recv (ci := 7) (fs := _) hK hC (by rw [hk_th]; decide) (by rw [hk_th]; exact zc_7 cy _ _) rfl) rfl hl.1 rfl (lv_room (Nat.le_of_ble_eq_true rfl)) dX7_next_51 ⟨Nat.le_of_ble_eq_true rfl, Nat.le_of_ble_eq_true rfl⟩) hC (fun H locs hC => ?_)
        refine lv_istore_n (lv' := [(3, .int x11), (2, .int x9), (0, .ref th), (1, .int v1)]) hx hb dX7_next_54 rfl hl (by decide) rfl (fun ls hl => ?_)
        refine lv_iload_n hx hb dX7_next_55 rfl (lv_at hl 0 rfl) ?_
        refine lv_if_lt (tgt := 76) hx hb dX7_next_56 (by decide) (fun h19 => ?_) (fun h19 => ?_)
        · have hf := zif_t hf h19
          refine lv_aload_n hx hb dX7_next_76 rfl (lv_at hl 2 rfl) ?_
          refine zg_7_24 hx hb hts hi7 hown hK hC hk_th w4 dX7_next_77 ?_
          obtain ⟨a13, ea13, hk_a13, hf⟩ := zn_inv hf
          refine z_ref ea13 ?_
          refine lv_iload_n hx hb dX7_next_80 rfl (lv_at hl 1 rfl) ?_
          refine lv_iconst (v := 1) hx hb dX7_next_81 (by decide) ?_
          obtain ⟨hix, hf⟩ := zx_inv hf
          obtain ⟨r14, er14, hf⟩ := zlet_inv hf
          refine xp_124 hx hb hK hC hk_a13 hix (Or.inr rfl) er14 dX7_next_82 (fun H locs hC => ?_)
          obtain ⟨x15, ex15, hf⟩ := zlet_inv hf
          refine lv_iinc (v := x15) (lv' := [(1, .int x15), (3, .int x11), (2, .int x9), (0, .ref th)]) hx hb dX7_next_83 hl (k := 3) rfl (by rw [ex15]; rfl) (by decide) rfl (fun ls hl => ?_)
          refine lv_goto (tgt := 34) hx hb dX7_next_86 (by decide) ?_
          exact ih34 _ _ _ _ x15 hC (lv_sub hl [3, 0] rfl) hf
        · have hf := zif_f hf h19
          refine lv_aload_n hx hb dX7_next_59 rfl (lv_at hl 2 rfl) ?_
          refine lv_iload_n hx hb dX7_next_60 rfl (lv_at hl 1 rfl) ?_
          refine lv_iload_n hx hb dX7_next_61 rfl (lv_at hl 0 rfl) ?_
          refine lv_sipush (v := 200) hx hb dX7_next_62 (by decide) ?_
          refine lv_idiv hx hb dX7_next_65 (by decide) ?_
          refine lv_iload_n hx hb dX7_next_66 rfl (lv_at hl 0 rfl) ?_
          refine lv_sipush (v := 200) hx hb dX7_next_67 (by decide) ?_
          refine lv_irem hx hb dX7_next_70 (by decide) ?_
          obtain ⟨r18, hc16, hf⟩ := zb_inv hf
          refine z_cv (z_rV (As := [.int x9, .int (x11 / 200), .int (x11 - x11 / 200 * 200)]) (rest := []) ⟨hx, hb, hml, hown, hts⟩ (c_X7_comes (l := l) (D := D) (cy := cy) (base := base) (st := st) (K := K) (L := L) (c := c) (r := r12) (o := o) (z := z) th x9 (x11 / 200) (x11 - x11 / 200 * 200) hk_th hc16) (cwV 3 hts gX7_next_X7_comes rfl rfl rfl (by decide +kernel) ⟨Nat.le_of_ble_eq_true rfl, Nat.le_of_ble_eq_true rfl⟩) hG hC (zC.recv (ci := 7) (fs := _) hK hC (by rw [hk_th]; decide) (by rw [hk_th]; exact zc_7 cy _ _) rfl) rfl hl.1 rfl (lv_room (Nat.le_of_ble_eq_true rfl)) dX7_next_71 ⟨Nat.le_of_ble_eq_true rfl, Nat.le_of_ble_eq_true rfl⟩) hC (fun H locs hC => ?_)
          refine lv_iload_n hx hb dX7_next_74 rfl (lv_at hl 1 rfl) ?_
          exact z_iretM hx hb hr hlocks hC hf dX7_next_75
  have J19 : ∀ (rA : zS) (H : Heap) (locs : List Loc) (ls : Array Slot) (s0 : Nat) (s1 : Int32), K s0 = 7 → zC D cy base K L (c, rA, o) s.heap H locs → lv_has ls 4 [(0, .ref th)] → f_X7_next_19 K z th rA s0 s1 = some (rv, rf) → W p l e (headSpec wsX7_next ({ frames := 8, cells := 0, slots := 0, locals := 192 })).room s m ([.ref th] : List Value).toArray below meth cd H locs 0 0 (MQ below (va_Qi (fun (rr : Int32) (_ : Unit) => rr = rv) (fun _ => zB D cy base K L (c, rf, o)) (zA base)) ([.ref th] : List Value).toArray s 0 0 (zA base)) (F0 m 19 ls [.int s1, .ref s0]) := by
    intro rA H locs ls s0 s1 hk_s0 hC hl hf
    unfold f_X7_next_19 at hf
    refine lv_iconst (v := 1) hx hb dX7_next_19 (by decide) ?_
    obtain ⟨x3, r4, hc2, hf⟩ := zb2_inv hf
    refine z_ci (z_rV (As := [.int s1, .int 1]) (rest := []) ⟨hx, hb, hml, hown, hts⟩ (c_X7_throwsIf (l := l) (D := D) (cy := cy) (base := base) (st := st) (K := K) (L := L) (c := c) (r := rA) (o := o) (z := z) s0 s1 1 hk_s0 hc2) (cwV 2 hts gX7_next_X7_throwsIf rfl rfl rfl (by decide +kernel) ⟨Nat.le_of_ble_eq_true rfl, Nat.le_of_ble_eq_true rfl⟩) hG hC (zC.recv (ci := 7) (fs := _) hK hC (by rw [hk_s0]; decide) (by rw [hk_s0]; exact zc_7 cy _ _) rfl) rfl hl.1 rfl (lv_room (Nat.le_of_ble_eq_true rfl)) dX7_next_20 ⟨Nat.le_of_ble_eq_true rfl, Nat.le_of_ble_eq_true rfl⟩) hC (fun H locs hC => ?_)
    refine lv_if_eq (tgt := 28) hx hb dX7_next_23 (by decide) (fun h21 => ?_) (fun h21 => ?_)
    · have hf := zif_t hf h21
      refine lv_aload_n hx hb dX7_next_28 rfl (lv_at hl 0 rfl) ?_
      obtain ⟨r7, hc5, hf⟩ := zb_inv hf
      refine z_cv (z_rV (As := []) (rest := []) ⟨hx, hb, hml, hown, hts⟩ (c_X7_lines (l := l) (D := D) (cy := cy) (base := base) (st := st) (K := K) (L := L) (c := c) (r := r4) (o := o) (z := z) th hk_th hc5) (cwV 0 hts gX7_next_X7_lines rfl rfl rfl (by decide +kernel) ⟨Nat.le_of_ble_eq_true rfl, Nat.le_of_ble_eq_true rfl⟩) hG hC (zC.recv (ci := 7) (fs := _) hK hC (by rw [hk_th]; decide) (by rw [hk_th]; exact zc_7 cy _ _) rfl) rfl hl.1 rfl (lv_room (Nat.le_of_ble_eq_true rfl)) dX7_next_29 ⟨Nat.le_of_ble_eq_true rfl, Nat.le_of_ble_eq_true rfl⟩) hC (fun H locs hC => ?_)
      refine lv_iconst (v := 0) hx hb dX7_next_32 (by decide) ?_
      refine lv_istore_n (lv' := [(1, .int 0), (0, .ref th)]) hx hb dX7_next_33 rfl hl (by decide) rfl (fun ls hl => ?_)
      exact L34 z _ _ _ _ 0 hC (lv_sub hl [1, 0] rfl) hf
    · have hf := zif_f hf h21
      refine lv_iconst (v := 0) hx hb dX7_next_26 (by decide) ?_
      exact z_iretM hx hb hr hlocks hC hf dX7_next_27
  unfold f_X7_next at hf
  refine lv_aload_n hx hb dX7_next_0 rfl (lv_at hl 0 rfl) ?_
  refine lv_iconst (v := 0) hx hb dX7_next_1 (by decide) ?_
  obtain ⟨r1, er1, hf⟩ := zlet_inv hf
  refine zp_7_0 hx hb hts hi7 hown hK hC hk_th w0 er1 dX7_next_2 (fun H locs hC => ?_)
  refine lv_aload_n hx hb dX7_next_5 rfl (lv_at hl 0 rfl) ?_
  refine lv_aload_n hx hb dX7_next_6 rfl (lv_at hl 0 rfl) ?_
  refine zg_7_37 hx hb hts hi7 hown hK hC hk_th w1 dX7_next_7 ?_
  refine lv_iconst (v := 3) hx hb dX7_next_10 (by decide) ?_
  refine lv_icmp_eq (tgt := 18) hx hb dX7_next_11 (by decide) (fun h22 => ?_) (fun h22 => ?_)
  · have hf := zif_t hf h22
    refine lv_iconst (v := 0) hx hb dX7_next_18 (by decide) ?_
    exact J19 _ _ _ _ th 0 hk_th hC (lv_sub hl [0] rfl) hf
  · have hf := zif_f hf h22
    refine lv_iconst (v := 1) hx hb dX7_next_14 (by decide) ?_
    refine lv_goto (tgt := 19) hx hb dX7_next_15 (by decide) ?_
    exact J19 _ _ _ _ th 1 hk_th hC (lv_sub hl [0] rfl) hf
def f_X7_full_36 (K : Nat → Nat) (z : Nat) (th : Nat) : Nat → zS → Int32 → Int32 → Option (Int32 × zS)
  | 0, _, _, _ => none
  | n + 1, rA, v1, v2 =>
    (if (zi rA 48 th 0) ≤ v2 then zz v1 <| some (v1, rA) else (if v1 = 0 then zz v1 <| some (v1, rA) else zn K (zr rA 47 th 0) 147 fun a10 => zx v2 200 <| zb2 (f_X7_goodSpot K z rA th (zi rA 147 a10 (Int32.toNatClampNeg v2))) fun x12 r13 => (if 0 ≤ x12 then zlet (v2 + 1) fun x14 => f_X7_full_36 K z th n r13 0 x14 else zlet (v2 + 1) fun x15 => f_X7_full_36 K z th n r13 1 x15)))
def f_X7_full_19 (K : Nat → Nat) (z : Nat) (th : Nat) (rA : zS) (s0 : Nat) (s1 : Int32) : Option (Int32 × zS) :=
  zb2 (f_X7_throwsIf K z rA s0 s1 1) fun x3 r4 => (if x3 = 0 then zb (f_X7_lines K z r4 th) fun r7 => f_X7_full_36 K z th z r7 1 0 else some (0, r4))
def f_X7_full (K : Nat → Nat) (z : Nat) (r : zS) (th : Nat) : Option (Int32 × zS) :=
  zlet (zui r 0 th 0 0) fun r1 => (if (zi r1 37 th 0) = 3 then f_X7_full_19 K z th r1 th 0 else f_X7_full_19 K z th r1 th 1)
set_option maxRecDepth 100000 in
set_option maxHeartbeats 4000000 in
theorem c_X7_full {l : Launch} {D : va_G} {cy : Nat → ClassId} {base : Nat} {st : Nat → Nat} {K : Nat → Nat} {L : List Nat} {c r : zS} {o : Int64} {z : Nat} (th : Nat) {rv : Int32} {rf : zS}  (hk_th : K th = 7) (hf : f_X7_full K z r th = some (rv, rf)) : Met l yX7_full wsX7_full ({ frames := 8, cells := 0, slots := 0, locals := 192 }) (va_Pc [.ref th] (zGW zts0 zns0 D cy base st K L (c, r, o))) (va_Qi (fun (rr : Int32) (_ : Unit) => rr = rv) (fun _ => zB D cy base K L (c, rf, o)) (zA base)) 0 0 (zA base) := by
  refine Met.ofW (cc := cX7_full) (maxL := 3) (ret := (some .boolean)) (by decide) rfl ?_
  intro p e s m args below meth cd s₁ B hml hv
  obtain ⟨rfl, hG⟩ := hv
  have hx := B.exec
  have hb := B.bytes
  have hr := B.returns
  have hts := atoms_spec (ws := wsX7_full) B.pre
  have hown : s.vm.findClass RX7 = some m.cls := findClass_of_methodNamed B.named
  have hlocks := B.notSynchronized
  have hC := hG.enter
  have hK := hG.2.2.2.1
  have hi7 : ∀ w ∈ wsX70, w ∈ wsX7_full := by decide +kernel
  have w0 := hts (.fieldLink RX7 127 "MarketSquareModel" "thrown" "I") (by decide +kernel)
  have w1 := hts (.fieldLink RX7 214 "MarketSquareModel" "time" "I") (by decide +kernel)
  have w2 := hts (.fieldLink RX7 211 "MarketSquareModel" "rowMany" "I") (by decide +kernel)
  have w3 := hts (.fieldLink RX7 118 "MarketSquareModel" "row" "[I") (by decide +kernel)
  have hl := lv_entry ([.ref th]) (n := 3) (Nat.le_of_ble_eq_true rfl)
  rw [lg_entry_eq]
  generalize (lg_sl ([.ref th]) ++ List.replicate (3 - (lg_sl ([.ref th])).length) Slot.unset).toArray = ls at hl ⊢
  have hl : lv_has ls 3 [(0, .ref th)] := hl
  have L36 : ∀ (n36 : Nat) (rA : zS) (H : Heap) (locs : List Loc) (ls : Array Slot) (v1 : Int32) (v2 : Int32), zC D cy base K L (c, rA, o) s.heap H locs → lv_has ls 3 [(0, .ref th), (1, .int v1), (2, .int v2)] → f_X7_full_36 K z th n36 rA v1 v2 = some (rv, rf) → W p l e (headSpec wsX7_full ({ frames := 8, cells := 0, slots := 0, locals := 192 })).room s m ([.ref th] : List Value).toArray below meth cd H locs 0 0 (MQ below (va_Qi (fun (rr : Int32) (_ : Unit) => rr = rv) (fun _ => zB D cy base K L (c, rf, o)) (zA base)) ([.ref th] : List Value).toArray s 0 0 (zA base)) (F0 m 36 ls []) := by
    intro n36
    induction n36 with
    | zero => intro rA H locs ls v1 v2 hC hl hf; rw [f_X7_full_36] at hf; cases hf
    | succ n36 ih36 =>
      intro rA H locs ls v1 v2 hC hl hf
      rw [f_X7_full_36] at hf
      refine lv_iload_n hx hb dX7_full_36 rfl (lv_at hl 2 rfl) ?_
      refine lv_aload_n hx hb dX7_full_37 rfl (lv_at hl 0 rfl) ?_
      refine zg_7_48 hx hb hts hi7 hown hK hC hk_th w2 dX7_full_38 ?_
      refine lv_icmp_ge (tgt := 73) hx hb dX7_full_41 (by decide) (fun h18 => ?_) (fun h18 => ?_)
      · have hf := zif_t hf h18
        refine lv_iload_n hx hb dX7_full_73 rfl (lv_at hl 1 rfl) ?_
        obtain ⟨hz8, hf⟩ := zz_inv hf
        exact z_zretM hx hb hr hlocks hC hz8 hf dX7_full_74
      · have hf := zif_f hf h18
        refine lv_iload_n hx hb dX7_full_44 rfl (lv_at hl 1 rfl) ?_
        refine lv_if_eq (tgt := 73) hx hb dX7_full_45 (by decide) (fun h17 => ?_) (fun h17 => ?_)
        · have hf := zif_t hf h17
          refine lv_iload_n hx hb dX7_full_73 rfl (lv_at hl 1 rfl) ?_
          obtain ⟨hz9, hf⟩ := zz_inv hf
          exact z_zretM hx hb hr hlocks hC hz9 hf dX7_full_74
        · have hf := zif_f hf h17
          refine lv_aload_n hx hb dX7_full_48 rfl (lv_at hl 0 rfl) ?_
          refine lv_aload_n hx hb dX7_full_49 rfl (lv_at hl 0 rfl) ?_
          refine zg_7_47 hx hb hts hi7 hown hK hC hk_th w3 dX7_full_50 ?_
          obtain ⟨a10, ea10, hk_a10, hf⟩ := zn_inv hf
          refine z_ref ea10 ?_
          refine lv_iload_n hx hb dX7_full_53 rfl (lv_at hl 2 rfl) ?_
          obtain ⟨hix, hf⟩ := zx_inv hf
          refine xg_147 hx hb hK hC hk_a10 hix dX7_full_54 ?_
          obtain ⟨x12, r13, hc11, hf⟩ := zb2_inv hf
          refine z_ci (z_rV (As := [.int (zi rA 147 a10 (Int32.toNatClampNeg v2))]) (rest := []) ⟨hx, hb, hml, hown, hts⟩ (c_X7_goodSpot (l := l) (D := D) (cy := cy) (base := base) (st := st) (K := K) (L := L) (c := c) (r := rA) (o := o) (z := z) th (zi rA 147 a10 (Int32.toNatClampNeg v2)) hk_th hc11) (cwV 1 hts gX7_full_X7_goodSpot rfl rfl rfl (by decide +kernel) ⟨Nat.le_of_ble_eq_true rfl, Nat.le_of_ble_eq_true rfl⟩) hG hC (zC.recv (ci := 7) (fs := _) hK hC (by rw [hk_th]; decide) (by rw [hk_th]; exact zc_7 cy _ _) rfl) rfl hl.1 rfl (lv_room (Nat.le_of_ble_eq_true rfl)) dX7_full_55 ⟨Nat.le_of_ble_eq_true rfl, Nat.le_of_ble_eq_true rfl⟩) hC (fun H locs hC => ?_)
          refine lv_if_ge (tgt := 65) hx hb dX7_full_58 (by decide) (fun h16 => ?_) (fun h16 => ?_)
          · have hf := zif_t hf h16
            refine lv_iconst (v := 0) hx hb dX7_full_65 (by decide) ?_
            refine lv_istore_n (lv' := [(1, .int 0), (0, .ref th), (2, .int v2)]) hx hb dX7_full_66 rfl hl (by decide) rfl (fun ls hl => ?_)
            obtain ⟨x14, ex14, hf⟩ := zlet_inv hf
            refine lv_iinc (v := x14) (lv' := [(2, .int x14), (1, .int 0), (0, .ref th)]) hx hb dX7_full_67 hl (k := 2) rfl (by rw [ex14]; rfl) (by decide) rfl (fun ls hl => ?_)
            refine lv_goto (tgt := 36) hx hb dX7_full_70 (by decide) ?_
            exact ih36 _ _ _ _ 0 x14 hC (lv_sub hl [2, 1, 0] rfl) hf
          · have hf := zif_f hf h16
            refine lv_iconst (v := 1) hx hb dX7_full_61 (by decide) ?_
            refine lv_goto (tgt := 66) hx hb dX7_full_62 (by decide) ?_
            refine lv_istore_n (lv' := [(1, .int 1), (0, .ref th), (2, .int v2)]) hx hb dX7_full_66 rfl hl (by decide) rfl (fun ls hl => ?_)
            obtain ⟨x15, ex15, hf⟩ := zlet_inv hf
            refine lv_iinc (v := x15) (lv' := [(2, .int x15), (1, .int 1), (0, .ref th)]) hx hb dX7_full_67 hl (k := 2) rfl (by rw [ex15]; rfl) (by decide) rfl (fun ls hl => ?_)
            refine lv_goto (tgt := 36) hx hb dX7_full_70 (by decide) ?_
            exact ih36 _ _ _ _ 1 x15 hC (lv_sub hl [2, 1, 0] rfl) hf
  have J19 : ∀ (rA : zS) (H : Heap) (locs : List Loc) (ls : Array Slot) (s0 : Nat) (s1 : Int32), K s0 = 7 → zC D cy base K L (c, rA, o) s.heap H locs → lv_has ls 3 [(0, .ref th)] → f_X7_full_19 K z th rA s0 s1 = some (rv, rf) → W p l e (headSpec wsX7_full ({ frames := 8, cells := 0, slots := 0, locals := 192 })).room s m ([.ref th] : List Value).toArray below meth cd H locs 0 0 (MQ below (va_Qi (fun (rr : Int32) (_ : Unit) => rr = rv) (fun _ => zB D cy base K L (c, rf, o)) (zA base)) ([.ref th] : List Value).toArray s 0 0 (zA base)) (F0 m 19 ls [.int s1, .ref s0]) := by
    intro rA H locs ls s0 s1 hk_s0 hC hl hf
    unfold f_X7_full_19 at hf
    refine lv_iconst (v := 1) hx hb dX7_full_19 (by decide) ?_
    obtain ⟨x3, r4, hc2, hf⟩ := zb2_inv hf
    refine z_ci (z_rV (As := [.int s1, .int 1]) (rest := []) ⟨hx, hb, hml, hown, hts⟩ (c_X7_throwsIf (l := l) (D := D) (cy := cy) (base := base) (st := st) (K := K) (L := L) (c := c) (r := rA) (o := o) (z := z) s0 s1 1 hk_s0 hc2) (cwV 2 hts gX7_full_X7_throwsIf rfl rfl rfl (by decide +kernel) ⟨Nat.le_of_ble_eq_true rfl, Nat.le_of_ble_eq_true rfl⟩) hG hC (zC.recv (ci := 7) (fs := _) hK hC (by rw [hk_s0]; decide) (by rw [hk_s0]; exact zc_7 cy _ _) rfl) rfl hl.1 rfl (lv_room (Nat.le_of_ble_eq_true rfl)) dX7_full_20 ⟨Nat.le_of_ble_eq_true rfl, Nat.le_of_ble_eq_true rfl⟩) hC (fun H locs hC => ?_)
    refine lv_if_eq (tgt := 28) hx hb dX7_full_23 (by decide) (fun h19 => ?_) (fun h19 => ?_)
    · have hf := zif_t hf h19
      refine lv_aload_n hx hb dX7_full_28 rfl (lv_at hl 0 rfl) ?_
      obtain ⟨r7, hc5, hf⟩ := zb_inv hf
      refine z_cv (z_rV (As := []) (rest := []) ⟨hx, hb, hml, hown, hts⟩ (c_X7_lines (l := l) (D := D) (cy := cy) (base := base) (st := st) (K := K) (L := L) (c := c) (r := r4) (o := o) (z := z) th hk_th hc5) (cwV 0 hts gX7_full_X7_lines rfl rfl rfl (by decide +kernel) ⟨Nat.le_of_ble_eq_true rfl, Nat.le_of_ble_eq_true rfl⟩) hG hC (zC.recv (ci := 7) (fs := _) hK hC (by rw [hk_th]; decide) (by rw [hk_th]; exact zc_7 cy _ _) rfl) rfl hl.1 rfl (lv_room (Nat.le_of_ble_eq_true rfl)) dX7_full_29 ⟨Nat.le_of_ble_eq_true rfl, Nat.le_of_ble_eq_true rfl⟩) hC (fun H locs hC => ?_)
      refine lv_iconst (v := 1) hx hb dX7_full_32 (by decide) ?_
      refine lv_istore_n (lv' := [(1, .int 1), (0, .ref th)]) hx hb dX7_full_33 rfl hl (by decide) rfl (fun ls hl => ?_)
      refine lv_iconst (v := 0) hx hb dX7_full_34 (by decide) ?_
      refine lv_istore_n (lv' := [(2, .int 0), (1, .int 1), (0, .ref th)]) hx hb dX7_full_35 rfl hl (by decide) rfl (fun ls hl => ?_)
      exact L36 z _ _ _ _ 1 0 hC (lv_sub hl [2, 1, 0] rfl) hf
    · have hf := zif_f hf h19
      refine lv_iconst (v := 0) hx hb dX7_full_26 (by decide) ?_
      exact z_zretM hx hb hr hlocks hC (Or.inl rfl) hf dX7_full_27
  unfold f_X7_full at hf
  refine lv_aload_n hx hb dX7_full_0 rfl (lv_at hl 0 rfl) ?_
  refine lv_iconst (v := 0) hx hb dX7_full_1 (by decide) ?_
  obtain ⟨r1, er1, hf⟩ := zlet_inv hf
  refine zp_7_0 hx hb hts hi7 hown hK hC hk_th w0 er1 dX7_full_2 (fun H locs hC => ?_)
  refine lv_aload_n hx hb dX7_full_5 rfl (lv_at hl 0 rfl) ?_
  refine lv_aload_n hx hb dX7_full_6 rfl (lv_at hl 0 rfl) ?_
  refine zg_7_37 hx hb hts hi7 hown hK hC hk_th w1 dX7_full_7 ?_
  refine lv_iconst (v := 3) hx hb dX7_full_10 (by decide) ?_
  refine lv_icmp_eq (tgt := 18) hx hb dX7_full_11 (by decide) (fun h20 => ?_) (fun h20 => ?_)
  · have hf := zif_t hf h20
    refine lv_iconst (v := 0) hx hb dX7_full_18 (by decide) ?_
    exact J19 _ _ _ _ th 0 hk_th hC (lv_sub hl [0] rfl) hf
  · have hf := zif_f hf h20
    refine lv_iconst (v := 1) hx hb dX7_full_14 (by decide) ?_
    refine lv_goto (tgt := 19) hx hb dX7_full_15 (by decide) ?_
    exact J19 _ _ _ _ th 1 hk_th hC (lv_sub hl [0] rfl) hf
def f_X7_waiting (K : Nat → Nat) (z : Nat) (r : zS) (th : Nat) (p1 : Int32) : Option (Int32 × zS) :=
  zlet (zui r 0 th 0 0) fun r1 => zb (f_X7_lines K z r1 th) fun r4 => (if p1 < 0 then some ((-1), r4) else (if p1 < (zi r4 48 th 0) then zn K (zr r4 47 th 0) 147 fun a5 => zx p1 200 <| some ((zi r4 147 a5 (Int32.toNatClampNeg p1)), r4) else some ((-1), r4)))
set_option maxRecDepth 100000 in
set_option maxHeartbeats 4000000 in
theorem c_X7_waiting {l : Launch} {D : va_G} {cy : Nat → ClassId} {base : Nat} {st : Nat → Nat} {K : Nat → Nat} {L : List Nat} {c r : zS} {o : Int64} {z : Nat} (th : Nat) (p1 : Int32) {rv : Int32} {rf : zS}  (hk_th : K th = 7) (hf : f_X7_waiting K z r th p1 = some (rv, rf)) : Met l yX7_waiting wsX7_waiting ({ frames := 4, cells := 0, slots := 0, locals := 91 }) (va_Pc [.ref th, .int p1] (zGW zts0 zns0 D cy base st K L (c, r, o))) (va_Qi (fun (rr : Int32) (_ : Unit) => rr = rv) (fun _ => zB D cy base K L (c, rf, o)) (zA base)) 0 0 (zA base) := by
  refine Met.ofW (cc := cX7_waiting) (maxL := 2) (ret := (some .int)) (by decide) rfl ?_
  intro p e s m args below meth cd s₁ B hml hv
  obtain ⟨rfl, hG⟩ := hv
  have hx := B.exec
  have hb := B.bytes
  have hr := B.returns
  have hts := atoms_spec (ws := wsX7_waiting) B.pre
  have hown : s.vm.findClass RX7 = some m.cls := findClass_of_methodNamed B.named
  have hlocks := B.notSynchronized
  have hC := hG.enter
  have hK := hG.2.2.2.1
  have hi7 : ∀ w ∈ wsX70, w ∈ wsX7_waiting := by decide +kernel
  have w0 := hts (.fieldLink RX7 127 "MarketSquareModel" "thrown" "I") (by decide +kernel)
  have w1 := hts (.fieldLink RX7 211 "MarketSquareModel" "rowMany" "I") (by decide +kernel)
  have w2 := hts (.fieldLink RX7 118 "MarketSquareModel" "row" "[I") (by decide +kernel)
  have hl := lv_entry ([.ref th, .int p1]) (n := 2) (Nat.le_of_ble_eq_true rfl)
  rw [lg_entry_eq]
  generalize (lg_sl ([.ref th, .int p1]) ++ List.replicate (2 - (lg_sl ([.ref th, .int p1])).length) Slot.unset).toArray = ls at hl ⊢
  have hl : lv_has ls 2 [(0, .ref th), (1, .int p1)] := hl
  unfold f_X7_waiting at hf
  refine lv_aload_n hx hb dX7_waiting_0 rfl (lv_at hl 0 rfl) ?_
  refine lv_iconst (v := 0) hx hb dX7_waiting_1 (by decide) ?_
  obtain ⟨r1, er1, hf⟩ := zlet_inv hf
  refine zp_7_0 hx hb hts hi7 hown hK hC hk_th w0 er1 dX7_waiting_2 (fun H locs hC => ?_)
  refine lv_aload_n hx hb dX7_waiting_5 rfl (lv_at hl 0 rfl) ?_
  obtain ⟨r4, hc2, hf⟩ := zb_inv hf
  refine z_cv (z_rV (As := []) (rest := []) ⟨hx, hb, hml, hown, hts⟩ (c_X7_lines (l := l) (D := D) (cy := cy) (base := base) (st := st) (K := K) (L := L) (c := c) (r := r1) (o := o) (z := z) th hk_th hc2) (cwV 0 hts gX7_waiting_X7_lines rfl rfl rfl (by decide +kernel) ⟨Nat.le_of_ble_eq_true rfl, Nat.le_of_ble_eq_true rfl⟩) hG hC (zC.recv (ci := 7) (fs := _) hK hC (by rw [hk_th]; decide) (by rw [hk_th]; exact zc_7 cy _ _) rfl) rfl hl.1 rfl (lv_room (Nat.le_of_ble_eq_true rfl)) dX7_waiting_6 ⟨Nat.le_of_ble_eq_true rfl, Nat.le_of_ble_eq_true rfl⟩) hC (fun H locs hC => ?_)
  refine lv_iload_n hx hb dX7_waiting_9 rfl (lv_at hl 1 rfl) ?_
  refine lv_if_lt (tgt := 21) hx hb dX7_waiting_10 (by decide) (fun h7 => ?_) (fun h7 => ?_)
  · have hf := zif_t hf h7
    refine lv_iconst (v := (-1)) hx hb dX7_waiting_21 (by decide) ?_
    refine lv_goto (tgt := 31) hx hb dX7_waiting_22 (by decide) ?_
    exact z_iretM hx hb hr hlocks hC hf dX7_waiting_31
  · have hf := zif_f hf h7
    refine lv_iload_n hx hb dX7_waiting_13 rfl (lv_at hl 1 rfl) ?_
    refine lv_aload_n hx hb dX7_waiting_14 rfl (lv_at hl 0 rfl) ?_
    refine zg_7_48 hx hb hts hi7 hown hK hC hk_th w1 dX7_waiting_15 ?_
    refine lv_icmp_lt (tgt := 25) hx hb dX7_waiting_18 (by decide) (fun h6 => ?_) (fun h6 => ?_)
    · have hf := zif_t hf h6
      refine lv_aload_n hx hb dX7_waiting_25 rfl (lv_at hl 0 rfl) ?_
      refine zg_7_47 hx hb hts hi7 hown hK hC hk_th w2 dX7_waiting_26 ?_
      obtain ⟨a5, ea5, hk_a5, hf⟩ := zn_inv hf
      refine z_ref ea5 ?_
      refine lv_iload_n hx hb dX7_waiting_29 rfl (lv_at hl 1 rfl) ?_
      obtain ⟨hix, hf⟩ := zx_inv hf
      refine xg_147 hx hb hK hC hk_a5 hix dX7_waiting_30 ?_
      exact z_iretM hx hb hr hlocks hC hf dX7_waiting_31
    · have hf := zif_f hf h6
      refine lv_iconst (v := (-1)) hx hb dX7_waiting_21 (by decide) ?_
      refine lv_goto (tgt := 31) hx hb dX7_waiting_22 (by decide) ?_
      exact z_iretM hx hb hr hlocks hC hf dX7_waiting_31
def f_X7_move_32 (K : Nat → Nat) (z : Nat) (th : Nat) (p1 : Int32) (p2 : Int32) (p3 : Int32) (rA : zS) (s0 : Nat) (s1 : Int32) : Option (Int32 × zS) :=
  zb2 (f_X7_throwsIf K z rA s0 s1 2) fun x8 r9 => (if x8 = 0 then zn K (zr r9 27 th 0) 127 fun a10 => zx p1 200 <| (if (zi r9 127 a10 (Int32.toNatClampNeg p1)) = 0 then some (0, r9) else zb (f_X7_against K z r9 th p1 p2 p3) fun x12 => (if x12 ≤ 0 then zn K (zr r9 28 th 0) 128 fun a13 => zx p1 200 <| zlet (zui r9 128 a13 (Int32.toNatClampNeg p1) p2) fun r14 => zn K (zr r14 29 th 0) 129 fun a15 => zx p1 200 <| zlet (zui r14 129 a15 (Int32.toNatClampNeg p1) p3) fun r16 => some (1, r16) else some (0, r9))) else some (0, r9))
def f_X7_move (K : Nat → Nat) (z : Nat) (r : zS) (th : Nat) (p1 : Int32) (p2 : Int32) (p3 : Int32) : Option (Int32 × zS) :=
  zlet (zui r 0 th 0 0) fun r1 => zb (f_X7_noTrader K z r1 th p1) fun x3 => zb2 (f_X7_throwsIf K z r1 th x3 1) fun x5 r6 => (if x5 = 0 then (if 2 ≤ (zi r6 37 th 0) then f_X7_move_32 K z th p1 p2 p3 r6 th 0 else f_X7_move_32 K z th p1 p2 p3 r6 th 1) else some (0, r6))
set_option maxRecDepth 100000 in
set_option maxHeartbeats 4000000 in
theorem c_X7_move {l : Launch} {D : va_G} {cy : Nat → ClassId} {base : Nat} {st : Nat → Nat} {K : Nat → Nat} {L : List Nat} {c r : zS} {o : Int64} {z : Nat} (th : Nat) (p1 : Int32) (p2 : Int32) (p3 : Int32) {rv : Int32} {rf : zS}  (hk_th : K th = 7) (hf : f_X7_move K z r th p1 p2 p3 = some (rv, rf)) : Met l yX7_move wsX7_move ({ frames := 6, cells := 0, slots := 0, locals := 146 }) (va_Pc [.ref th, .int p1, .int p2, .int p3] (zGW zts0 zns0 D cy base st K L (c, r, o))) (va_Qi (fun (rr : Int32) (_ : Unit) => rr = rv) (fun _ => zB D cy base K L (c, rf, o)) (zA base)) 0 0 (zA base) := by
  refine Met.ofW (cc := cX7_move) (maxL := 4) (ret := (some .boolean)) (by decide) rfl ?_
  intro p e s m args below meth cd s₁ B hml hv
  obtain ⟨rfl, hG⟩ := hv
  have hx := B.exec
  have hb := B.bytes
  have hr := B.returns
  have hts := atoms_spec (ws := wsX7_move) B.pre
  have hown : s.vm.findClass RX7 = some m.cls := findClass_of_methodNamed B.named
  have hlocks := B.notSynchronized
  have hC := hG.enter
  have hK := hG.2.2.2.1
  have hi7 : ∀ w ∈ wsX70, w ∈ wsX7_move := by decide +kernel
  have w0 := hts (.fieldLink RX7 127 "MarketSquareModel" "thrown" "I") (by decide +kernel)
  have w1 := hts (.fieldLink RX7 214 "MarketSquareModel" "time" "I") (by decide +kernel)
  have w2 := hts (.fieldLink RX7 87 "MarketSquareModel" "stands" "[Z") (by decide +kernel)
  have w3 := hts (.fieldLink RX7 90 "MarketSquareModel" "stallRow" "[I") (by decide +kernel)
  have w4 := hts (.fieldLink RX7 93 "MarketSquareModel" "stallPlace" "[I") (by decide +kernel)
  have hl := lv_entry ([.ref th, .int p1, .int p2, .int p3]) (n := 4) (Nat.le_of_ble_eq_true rfl)
  rw [lg_entry_eq]
  generalize (lg_sl ([.ref th, .int p1, .int p2, .int p3]) ++ List.replicate (4 - (lg_sl ([.ref th, .int p1, .int p2, .int p3])).length) Slot.unset).toArray = ls at hl ⊢
  have hl : lv_has ls 4 [(0, .ref th), (1, .int p1), (2, .int p2), (3, .int p3)] := hl
  have J32 : ∀ (rA : zS) (H : Heap) (locs : List Loc) (ls : Array Slot) (s0 : Nat) (s1 : Int32), K s0 = 7 → zC D cy base K L (c, rA, o) s.heap H locs → lv_has ls 4 [(0, .ref th), (1, .int p1), (2, .int p2), (3, .int p3)] → f_X7_move_32 K z th p1 p2 p3 rA s0 s1 = some (rv, rf) → W p l e (headSpec wsX7_move ({ frames := 6, cells := 0, slots := 0, locals := 146 })).room s m ([.ref th, .int p1, .int p2, .int p3] : List Value).toArray below meth cd H locs 0 0 (MQ below (va_Qi (fun (rr : Int32) (_ : Unit) => rr = rv) (fun _ => zB D cy base K L (c, rf, o)) (zA base)) ([.ref th, .int p1, .int p2, .int p3] : List Value).toArray s 0 0 (zA base)) (F0 m 32 ls [.int s1, .ref s0]) := by
    intro rA H locs ls s0 s1 hk_s0 hC hl hf
    unfold f_X7_move_32 at hf
    refine lv_iconst (v := 2) hx hb dX7_move_32 (by decide) ?_
    obtain ⟨x8, r9, hc7, hf⟩ := zb2_inv hf
    refine z_ci (z_rV (As := [.int s1, .int 2]) (rest := []) ⟨hx, hb, hml, hown, hts⟩ (c_X7_throwsIf (l := l) (D := D) (cy := cy) (base := base) (st := st) (K := K) (L := L) (c := c) (r := rA) (o := o) (z := z) s0 s1 2 hk_s0 hc7) (cwV 2 hts gX7_move_X7_throwsIf rfl rfl rfl (by decide +kernel) ⟨Nat.le_of_ble_eq_true rfl, Nat.le_of_ble_eq_true rfl⟩) hG hC (zC.recv (ci := 7) (fs := _) hK hC (by rw [hk_s0]; decide) (by rw [hk_s0]; exact zc_7 cy _ _) rfl) rfl hl.1 rfl (lv_room (Nat.le_of_ble_eq_true rfl)) dX7_move_33 ⟨Nat.le_of_ble_eq_true rfl, Nat.le_of_ble_eq_true rfl⟩) hC (fun H locs hC => ?_)
    refine lv_if_eq (tgt := 41) hx hb dX7_move_36 (by decide) (fun h19 => ?_) (fun h19 => ?_)
    · have hf := zif_t hf h19
      refine lv_aload_n hx hb dX7_move_41 rfl (lv_at hl 0 rfl) ?_
      refine zg_7_27 hx hb hts hi7 hown hK hC hk_th w2 dX7_move_42 ?_
      obtain ⟨a10, ea10, hk_a10, hf⟩ := zn_inv hf
      refine z_ref ea10 ?_
      refine lv_iload_n hx hb dX7_move_45 rfl (lv_at hl 1 rfl) ?_
      obtain ⟨hix, hf⟩ := zx_inv hf
      refine xg_127 hx hb hK hC hk_a10 hix dX7_move_46 ?_
      refine lv_if_eq (tgt := 60) hx hb dX7_move_47 (by decide) (fun h18 => ?_) (fun h18 => ?_)
      · have hf := zif_t hf h18
        refine lv_iconst (v := 0) hx hb dX7_move_60 (by decide) ?_
        exact z_zretM hx hb hr hlocks hC (Or.inl rfl) hf dX7_move_61
      · have hf := zif_f hf h18
        refine lv_aload_n hx hb dX7_move_50 rfl (lv_at hl 0 rfl) ?_
        refine lv_iload_n hx hb dX7_move_51 rfl (lv_at hl 1 rfl) ?_
        refine lv_iload_n hx hb dX7_move_52 rfl (lv_at hl 2 rfl) ?_
        refine lv_iload_n hx hb dX7_move_53 rfl (lv_at hl 3 rfl) ?_
        obtain ⟨x12, hc11, hf⟩ := zb_inv hf
        refine z_ci (z_rV (As := [.int p1, .int p2, .int p3]) (rest := []) ⟨hx, hb, hml, hown, hts⟩ (c_X7_against (l := l) (D := D) (cy := cy) (base := base) (st := st) (K := K) (L := L) (c := c) (r := r9) (o := o) (z := z) th p1 p2 p3 hk_th hc11) (cwV 3 hts gX7_move_X7_against rfl rfl rfl (by decide +kernel) ⟨Nat.le_of_ble_eq_true rfl, Nat.le_of_ble_eq_true rfl⟩) hG hC (zC.recv (ci := 7) (fs := _) hK hC (by rw [hk_th]; decide) (by rw [hk_th]; exact zc_7 cy _ _) rfl) rfl hl.1 rfl (lv_room (Nat.le_of_ble_eq_true rfl)) dX7_move_54 ⟨Nat.le_of_ble_eq_true rfl, Nat.le_of_ble_eq_true rfl⟩) hC (fun H locs hC => ?_)
        refine lv_if_le (tgt := 62) hx hb dX7_move_57 (by decide) (fun h17 => ?_) (fun h17 => ?_)
        · have hf := zif_t hf h17
          refine lv_aload_n hx hb dX7_move_62 rfl (lv_at hl 0 rfl) ?_
          refine zg_7_28 hx hb hts hi7 hown hK hC hk_th w3 dX7_move_63 ?_
          obtain ⟨a13, ea13, hk_a13, hf⟩ := zn_inv hf
          refine z_ref ea13 ?_
          refine lv_iload_n hx hb dX7_move_66 rfl (lv_at hl 1 rfl) ?_
          refine lv_iload_n hx hb dX7_move_67 rfl (lv_at hl 2 rfl) ?_
          obtain ⟨hix, hf⟩ := zx_inv hf
          obtain ⟨r14, er14, hf⟩ := zlet_inv hf
          refine xp_128 hx hb hK hC hk_a13 hix er14 dX7_move_68 (fun H locs hC => ?_)
          refine lv_aload_n hx hb dX7_move_69 rfl (lv_at hl 0 rfl) ?_
          refine zg_7_29 hx hb hts hi7 hown hK hC hk_th w4 dX7_move_70 ?_
          obtain ⟨a15, ea15, hk_a15, hf⟩ := zn_inv hf
          refine z_ref ea15 ?_
          refine lv_iload_n hx hb dX7_move_73 rfl (lv_at hl 1 rfl) ?_
          refine lv_iload_n hx hb dX7_move_74 rfl (lv_at hl 3 rfl) ?_
          obtain ⟨hix, hf⟩ := zx_inv hf
          obtain ⟨r16, er16, hf⟩ := zlet_inv hf
          refine xp_129 hx hb hK hC hk_a15 hix er16 dX7_move_75 (fun H locs hC => ?_)
          refine lv_iconst (v := 1) hx hb dX7_move_76 (by decide) ?_
          exact z_zretM hx hb hr hlocks hC (Or.inr rfl) hf dX7_move_77
        · have hf := zif_f hf h17
          refine lv_iconst (v := 0) hx hb dX7_move_60 (by decide) ?_
          exact z_zretM hx hb hr hlocks hC (Or.inl rfl) hf dX7_move_61
    · have hf := zif_f hf h19
      refine lv_iconst (v := 0) hx hb dX7_move_39 (by decide) ?_
      exact z_zretM hx hb hr hlocks hC (Or.inl rfl) hf dX7_move_40
  unfold f_X7_move at hf
  refine lv_aload_n hx hb dX7_move_0 rfl (lv_at hl 0 rfl) ?_
  refine lv_iconst (v := 0) hx hb dX7_move_1 (by decide) ?_
  obtain ⟨r1, er1, hf⟩ := zlet_inv hf
  refine zp_7_0 hx hb hts hi7 hown hK hC hk_th w0 er1 dX7_move_2 (fun H locs hC => ?_)
  refine lv_aload_n hx hb dX7_move_5 rfl (lv_at hl 0 rfl) ?_
  refine lv_aload_n hx hb dX7_move_6 rfl (lv_at hl 0 rfl) ?_
  refine lv_iload_n hx hb dX7_move_7 rfl (lv_at hl 1 rfl) ?_
  obtain ⟨x3, hc2, hf⟩ := zb_inv hf
  refine z_ci (z_rV (As := [.int p1]) (rest := [.ref th]) ⟨hx, hb, hml, hown, hts⟩ (c_X7_noTrader (l := l) (D := D) (cy := cy) (base := base) (st := st) (K := K) (L := L) (c := c) (r := r1) (o := o) (z := z) th p1 hk_th hc2) (cwV 1 hts gX7_move_X7_noTrader rfl rfl rfl (by decide +kernel) ⟨Nat.le_of_ble_eq_true rfl, Nat.le_of_ble_eq_true rfl⟩) hG hC (zC.recv (ci := 7) (fs := _) hK hC (by rw [hk_th]; decide) (by rw [hk_th]; exact zc_7 cy _ _) rfl) rfl hl.1 rfl (lv_room (Nat.le_of_ble_eq_true rfl)) dX7_move_8 ⟨Nat.le_of_ble_eq_true rfl, Nat.le_of_ble_eq_true rfl⟩) hC (fun H locs hC => ?_)
  refine lv_iconst (v := 1) hx hb dX7_move_11 (by decide) ?_
  obtain ⟨x5, r6, hc4, hf⟩ := zb2_inv hf
  refine z_ci (z_rV (As := [.int x3, .int 1]) (rest := []) ⟨hx, hb, hml, hown, hts⟩ (c_X7_throwsIf (l := l) (D := D) (cy := cy) (base := base) (st := st) (K := K) (L := L) (c := c) (r := r1) (o := o) (z := z) th x3 1 hk_th hc4) (cwV 2 hts gX7_move_X7_throwsIf rfl rfl rfl (by decide +kernel) ⟨Nat.le_of_ble_eq_true rfl, Nat.le_of_ble_eq_true rfl⟩) hG hC (zC.recv (ci := 7) (fs := _) hK hC (by rw [hk_th]; decide) (by rw [hk_th]; exact zc_7 cy _ _) rfl) rfl hl.1 rfl (lv_room (Nat.le_of_ble_eq_true rfl)) dX7_move_12 ⟨Nat.le_of_ble_eq_true rfl, Nat.le_of_ble_eq_true rfl⟩) hC (fun H locs hC => ?_)
  refine lv_if_ne (tgt := 39) hx hb dX7_move_15 (by decide) (fun h21 => ?_) (fun h21 => ?_)
  · have hf := zif_f hf h21
    refine lv_iconst (v := 0) hx hb dX7_move_39 (by decide) ?_
    exact z_zretM hx hb hr hlocks hC (Or.inl rfl) hf dX7_move_40
  · have hf := zif_t hf h21
    refine lv_aload_n hx hb dX7_move_18 rfl (lv_at hl 0 rfl) ?_
    refine lv_aload_n hx hb dX7_move_19 rfl (lv_at hl 0 rfl) ?_
    refine zg_7_37 hx hb hts hi7 hown hK hC hk_th w1 dX7_move_20 ?_
    refine lv_iconst (v := 2) hx hb dX7_move_23 (by decide) ?_
    refine lv_icmp_ge (tgt := 31) hx hb dX7_move_24 (by decide) (fun h20 => ?_) (fun h20 => ?_)
    · have hf := zif_t hf h20
      refine lv_iconst (v := 0) hx hb dX7_move_31 (by decide) ?_
      exact J32 _ _ _ _ th 0 hk_th hC (lv_sub hl [0, 1, 2, 3] rfl) hf
    · have hf := zif_f hf h20
      refine lv_iconst (v := 1) hx hb dX7_move_27 (by decide) ?_
      refine lv_goto (tgt := 32) hx hb dX7_move_28 (by decide) ?_
      exact J32 _ _ _ _ th 1 hk_th hC (lv_sub hl [0, 1, 2, 3] rfl) hf
def f_X7_change_219 (K : Nat → Nat) (z : Nat) (th : Nat) (p1 : Int32) (p2 : Int32) (rA : zS) (v3 : Int32) (v4 : Int32) (v7 : Int32) (s0 : Nat) (s1 : Int32) (s2 : Int32) : Option (Int32 × zS) :=
  zx s1 200 <| zlet (zui rA 129 s0 (Int32.toNatClampNeg s1) s2) fun r25 => (if v7 = 0 then zz v7 <| some (v7, r25) else zn K (zr r25 28 th 0) 128 fun a27 => zx p2 200 <| zlet (zui r25 128 a27 (Int32.toNatClampNeg p2) v3) fun r28 => zn K (zr r28 29 th 0) 129 fun a29 => zx p2 200 <| zlet (zui r28 129 a29 (Int32.toNatClampNeg p2) v4) fun r30 => zz v7 <| some (v7, r30))
def f_X7_change_201 (K : Nat → Nat) (z : Nat) (th : Nat) (p1 : Int32) (p2 : Int32) (rA : zS) (v3 : Int32) (v4 : Int32) (v6 : Int32) (v7 : Int32) (s0 : Nat) (s1 : Int32) (s2 : Int32) : Option (Int32 × zS) :=
  zx s1 200 <| zlet (zui rA 128 s0 (Int32.toNatClampNeg s1) s2) fun r23 => zn K (zr r23 29 th 0) 129 fun a24 => (if v7 = 0 then f_X7_change_219 K z th p1 p2 r23 v3 v4 v7 a24 p1 v4 else f_X7_change_219 K z th p1 p2 r23 v3 v4 v7 a24 p1 v6)
def f_X7_change_178 (K : Nat → Nat) (z : Nat) (th : Nat) (p1 : Int32) (p2 : Int32) (rA : zS) (v3 : Int32) (v4 : Int32) (v5 : Int32) (v6 : Int32) (v7 : Int32) : Option (Int32 × zS) :=
  zn K (zr rA 27 th 0) 127 fun a20 => zx p2 200 <| zlet (zui rA 127 a20 (Int32.toNatClampNeg p2) 1) fun r21 => zn K (zr r21 28 th 0) 128 fun a22 => (if v7 = 0 then f_X7_change_201 K z th p1 p2 r21 v3 v4 v6 v7 a22 p1 v3 else f_X7_change_201 K z th p1 p2 r21 v3 v4 v6 v7 a22 p1 v5)
def f_X7_change_176 (K : Nat → Nat) (z : Nat) (th : Nat) (p1 : Int32) (p2 : Int32) (rA : zS) (v3 : Int32) (v4 : Int32) (v5 : Int32) (v6 : Int32) (s0 : Int32) : Option (Int32 × zS) :=
  f_X7_change_178 K z th p1 p2 rA v3 v4 v5 v6 s0
def f_X7_change_137 (K : Nat → Nat) (z : Nat) (th : Nat) (p1 : Int32) (p2 : Int32) (rA : zS) (v3 : Int32) (v4 : Int32) (v5 : Int32) (v6 : Int32) (s0 : Int32) : Option (Int32 × zS) :=
  (if s0 = 0 then f_X7_change_178 K z th p1 p2 rA v3 v4 v5 v6 s0 else zn K (zr rA 28 th 0) 128 fun a35 => zx p1 200 <| zlet (zui rA 128 a35 (Int32.toNatClampNeg p1) v5) fun r36 => zn K (zr r36 29 th 0) 129 fun a37 => zx p1 200 <| zlet (zui r36 129 a37 (Int32.toNatClampNeg p1) v6) fun r38 => zb (f_X7_against K z r38 th p2 v3 v4) fun x40 => (if x40 = 0 then f_X7_change_176 K z th p1 p2 r38 v3 v4 v5 v6 1 else f_X7_change_176 K z th p1 p2 r38 v3 v4 v5 v6 0))
def f_X7_change_48 (K : Nat → Nat) (z : Nat) (th : Nat) (p1 : Int32) (p2 : Int32) (rA : zS) (s0 : Nat) (s1 : Int32) : Option (Int32 × zS) :=
  zb2 (f_X7_throwsIf K z rA s0 s1 2) fun x8 r9 => (if x8 = 0 then (if p1 = p2 then some (0, r9) else zn K (zr r9 27 th 0) 127 fun a10 => zx p1 200 <| (if (zi r9 127 a10 (Int32.toNatClampNeg p1)) = 0 then some (0, r9) else zx p2 200 <| (if (zi r9 127 a10 (Int32.toNatClampNeg p2)) = 0 then some (0, r9) else zn K (zr r9 28 th 0) 128 fun a11 => zx p1 200 <| zlet (zi r9 128 a11 (Int32.toNatClampNeg p1)) fun x12 => zn K (zr r9 29 th 0) 129 fun a13 => zx p1 200 <| zlet (zi r9 129 a13 (Int32.toNatClampNeg p1)) fun x14 => zx p2 200 <| zlet (zi r9 128 a11 (Int32.toNatClampNeg p2)) fun x15 => zx p2 200 <| zlet (zi r9 129 a13 (Int32.toNatClampNeg p2)) fun x16 => zx p2 200 <| zlet (zui r9 127 a10 (Int32.toNatClampNeg p2) 0) fun r17 => zb (f_X7_against K z r17 th p1 x15 x16) fun x19 => (if x19 = 0 then f_X7_change_137 K z th p1 p2 r17 x12 x14 x15 x16 1 else f_X7_change_137 K z th p1 p2 r17 x12 x14 x15 x16 0)))) else some (0, r9))
def f_X7_change_27 (K : Nat → Nat) (z : Nat) (th : Nat) (p1 : Int32) (p2 : Int32) (rA : zS) (s0 : Nat) (s1 : Int32) : Option (Int32 × zS) :=
  zb2 (f_X7_throwsIf K z rA s0 s1 1) fun x5 r6 => (if x5 = 0 then (if 2 ≤ (zi r6 37 th 0) then f_X7_change_48 K z th p1 p2 r6 th 0 else f_X7_change_48 K z th p1 p2 r6 th 1) else some (0, r6))
def f_X7_change_22 (K : Nat → Nat) (z : Nat) (th : Nat) (p1 : Int32) (p2 : Int32) (rA : zS) (s0 : Nat) : Option (Int32 × zS) :=
  f_X7_change_27 K z th p1 p2 rA s0 1
def f_X7_change (K : Nat → Nat) (z : Nat) (r : zS) (th : Nat) (p1 : Int32) (p2 : Int32) : Option (Int32 × zS) :=
  zlet (zui r 0 th 0 0) fun r1 => zb (f_X7_noTrader K z r1 th p1) fun x3 => (if x3 = 0 then zb (f_X7_noTrader K z r1 th p2) fun x51 => (if x51 = 0 then f_X7_change_27 K z th p1 p2 r1 th 0 else f_X7_change_22 K z th p1 p2 r1 th) else f_X7_change_22 K z th p1 p2 r1 th)
set_option maxRecDepth 100000 in
set_option maxHeartbeats 4000000 in
theorem c_X7_change {l : Launch} {D : va_G} {cy : Nat → ClassId} {base : Nat} {st : Nat → Nat} {K : Nat → Nat} {L : List Nat} {c r : zS} {o : Int64} {z : Nat} (th : Nat) (p1 : Int32) (p2 : Int32) {rv : Int32} {rf : zS}  (hk_th : K th = 7) (hf : f_X7_change K z r th p1 p2 = some (rv, rf)) : Met l yX7_change wsX7_change ({ frames := 6, cells := 0, slots := 0, locals := 146 }) (va_Pc [.ref th, .int p1, .int p2] (zGW zts0 zns0 D cy base st K L (c, r, o))) (va_Qi (fun (rr : Int32) (_ : Unit) => rr = rv) (fun _ => zB D cy base K L (c, rf, o)) (zA base)) 0 0 (zA base) := by
  refine Met.ofW (cc := cX7_change) (maxL := 8) (ret := (some .boolean)) (by decide) rfl ?_
  intro p e s m args below meth cd s₁ B hml hv
  obtain ⟨rfl, hG⟩ := hv
  have hx := B.exec
  have hb := B.bytes
  have hr := B.returns
  have hts := atoms_spec (ws := wsX7_change) B.pre
  have hown : s.vm.findClass RX7 = some m.cls := findClass_of_methodNamed B.named
  have hlocks := B.notSynchronized
  have hC := hG.enter
  have hK := hG.2.2.2.1
  have hi7 : ∀ w ∈ wsX70, w ∈ wsX7_change := by decide +kernel
  have w0 := hts (.fieldLink RX7 127 "MarketSquareModel" "thrown" "I") (by decide +kernel)
  have w1 := hts (.fieldLink RX7 214 "MarketSquareModel" "time" "I") (by decide +kernel)
  have w2 := hts (.fieldLink RX7 87 "MarketSquareModel" "stands" "[Z") (by decide +kernel)
  have w3 := hts (.fieldLink RX7 90 "MarketSquareModel" "stallRow" "[I") (by decide +kernel)
  have w4 := hts (.fieldLink RX7 93 "MarketSquareModel" "stallPlace" "[I") (by decide +kernel)
  have hl := lv_entry ([.ref th, .int p1, .int p2]) (n := 8) (Nat.le_of_ble_eq_true rfl)
  rw [lg_entry_eq]
  generalize (lg_sl ([.ref th, .int p1, .int p2]) ++ List.replicate (8 - (lg_sl ([.ref th, .int p1, .int p2])).length) Slot.unset).toArray = ls at hl ⊢
  have hl : lv_has ls 8 [(0, .ref th), (1, .int p1), (2, .int p2)] := hl
  have J219 : ∀ (rA : zS) (H : Heap) (locs : List Loc) (ls : Array Slot) (v3 : Int32) (v4 : Int32) (v7 : Int32) (s0 : Nat) (s1 : Int32) (s2 : Int32), K s0 = 129 → zC D cy base K L (c, rA, o) s.heap H locs → lv_has ls 8 [(0, .ref th), (1, .int p1), (2, .int p2), (3, .int v3), (4, .int v4), (7, .int v7)] → f_X7_change_219 K z th p1 p2 rA v3 v4 v7 s0 s1 s2 = some (rv, rf) → W p l e (headSpec wsX7_change ({ frames := 6, cells := 0, slots := 0, locals := 146 })).room s m ([.ref th, .int p1, .int p2] : List Value).toArray below meth cd H locs 0 0 (MQ below (va_Qi (fun (rr : Int32) (_ : Unit) => rr = rv) (fun _ => zB D cy base K L (c, rf, o)) (zA base)) ([.ref th, .int p1, .int p2] : List Value).toArray s 0 0 (zA base)) (F0 m 219 ls [.int s2, .int s1, .ref s0]) := by
    intro rA H locs ls v3 v4 v7 s0 s1 s2 hk_s0 hC hl hf
    unfold f_X7_change_219 at hf
    obtain ⟨hix, hf⟩ := zx_inv hf
    obtain ⟨r25, er25, hf⟩ := zlet_inv hf
    refine xp_129 hx hb hK hC hk_s0 hix er25 dX7_change_219 (fun H locs hC => ?_)
    refine lv_iload hx hb dX7_change_220 (lv_at hl 5 rfl) ?_
    refine lv_if_eq (tgt := 240) hx hb dX7_change_222 (by decide) (fun h32 => ?_) (fun h32 => ?_)
    · have hf := zif_t hf h32
      refine lv_iload hx hb dX7_change_240 (lv_at hl 5 rfl) ?_
      obtain ⟨hz26, hf⟩ := zz_inv hf
      exact z_zretM hx hb hr hlocks hC hz26 hf dX7_change_242
    · have hf := zif_f hf h32
      refine lv_aload_n hx hb dX7_change_225 rfl (lv_at hl 0 rfl) ?_
      refine zg_7_28 hx hb hts hi7 hown hK hC hk_th w3 dX7_change_226 ?_
      obtain ⟨a27, ea27, hk_a27, hf⟩ := zn_inv hf
      refine z_ref ea27 ?_
      refine lv_iload_n hx hb dX7_change_229 rfl (lv_at hl 2 rfl) ?_
      refine lv_iload_n hx hb dX7_change_230 rfl (lv_at hl 3 rfl) ?_
      obtain ⟨hix, hf⟩ := zx_inv hf
      obtain ⟨r28, er28, hf⟩ := zlet_inv hf
      refine xp_128 hx hb hK hC hk_a27 hix er28 dX7_change_231 (fun H locs hC => ?_)
      refine lv_aload_n hx hb dX7_change_232 rfl (lv_at hl 0 rfl) ?_
      refine zg_7_29 hx hb hts hi7 hown hK hC hk_th w4 dX7_change_233 ?_
      obtain ⟨a29, ea29, hk_a29, hf⟩ := zn_inv hf
      refine z_ref ea29 ?_
      refine lv_iload_n hx hb dX7_change_236 rfl (lv_at hl 2 rfl) ?_
      refine lv_iload hx hb dX7_change_237 (lv_at hl 4 rfl) ?_
      obtain ⟨hix, hf⟩ := zx_inv hf
      obtain ⟨r30, er30, hf⟩ := zlet_inv hf
      refine xp_129 hx hb hK hC hk_a29 hix er30 dX7_change_239 (fun H locs hC => ?_)
      refine lv_iload hx hb dX7_change_240 (lv_at hl 5 rfl) ?_
      obtain ⟨hz31, hf⟩ := zz_inv hf
      exact z_zretM hx hb hr hlocks hC hz31 hf dX7_change_242
  have J201 : ∀ (rA : zS) (H : Heap) (locs : List Loc) (ls : Array Slot) (v3 : Int32) (v4 : Int32) (v6 : Int32) (v7 : Int32) (s0 : Nat) (s1 : Int32) (s2 : Int32), K s0 = 128 → zC D cy base K L (c, rA, o) s.heap H locs → lv_has ls 8 [(0, .ref th), (1, .int p1), (2, .int p2), (3, .int v3), (4, .int v4), (6, .int v6), (7, .int v7)] → f_X7_change_201 K z th p1 p2 rA v3 v4 v6 v7 s0 s1 s2 = some (rv, rf) → W p l e (headSpec wsX7_change ({ frames := 6, cells := 0, slots := 0, locals := 146 })).room s m ([.ref th, .int p1, .int p2] : List Value).toArray below meth cd H locs 0 0 (MQ below (va_Qi (fun (rr : Int32) (_ : Unit) => rr = rv) (fun _ => zB D cy base K L (c, rf, o)) (zA base)) ([.ref th, .int p1, .int p2] : List Value).toArray s 0 0 (zA base)) (F0 m 201 ls [.int s2, .int s1, .ref s0]) := by
    intro rA H locs ls v3 v4 v6 v7 s0 s1 s2 hk_s0 hC hl hf
    unfold f_X7_change_201 at hf
    obtain ⟨hix, hf⟩ := zx_inv hf
    obtain ⟨r23, er23, hf⟩ := zlet_inv hf
    refine xp_128 hx hb hK hC hk_s0 hix er23 dX7_change_201 (fun H locs hC => ?_)
    refine lv_aload_n hx hb dX7_change_202 rfl (lv_at hl 0 rfl) ?_
    refine zg_7_29 hx hb hts hi7 hown hK hC hk_th w4 dX7_change_203 ?_
    obtain ⟨a24, ea24, hk_a24, hf⟩ := zn_inv hf
    refine z_ref ea24 ?_
    refine lv_iload_n hx hb dX7_change_206 rfl (lv_at hl 1 rfl) ?_
    refine lv_iload hx hb dX7_change_207 (lv_at hl 6 rfl) ?_
    refine lv_if_eq (tgt := 217) hx hb dX7_change_209 (by decide) (fun h33 => ?_) (fun h33 => ?_)
    · have hf := zif_t hf h33
      refine lv_iload hx hb dX7_change_217 (lv_at hl 4 rfl) ?_
      exact J219 _ _ _ _ v3 v4 v7 a24 p1 v4 hk_a24 hC (lv_sub hl [0, 1, 2, 3, 4, 6] rfl) hf
    · have hf := zif_f hf h33
      refine lv_iload hx hb dX7_change_212 (lv_at hl 5 rfl) ?_
      refine lv_goto (tgt := 219) hx hb dX7_change_214 (by decide) ?_
      exact J219 _ _ _ _ v3 v4 v7 a24 p1 v6 hk_a24 hC (lv_sub hl [0, 1, 2, 3, 4, 6] rfl) hf
  have J178 : ∀ (rA : zS) (H : Heap) (locs : List Loc) (ls : Array Slot) (v3 : Int32) (v4 : Int32) (v5 : Int32) (v6 : Int32) (v7 : Int32), zC D cy base K L (c, rA, o) s.heap H locs → lv_has ls 8 [(0, .ref th), (1, .int p1), (2, .int p2), (3, .int v3), (4, .int v4), (5, .int v5), (6, .int v6), (7, .int v7)] → f_X7_change_178 K z th p1 p2 rA v3 v4 v5 v6 v7 = some (rv, rf) → W p l e (headSpec wsX7_change ({ frames := 6, cells := 0, slots := 0, locals := 146 })).room s m ([.ref th, .int p1, .int p2] : List Value).toArray below meth cd H locs 0 0 (MQ below (va_Qi (fun (rr : Int32) (_ : Unit) => rr = rv) (fun _ => zB D cy base K L (c, rf, o)) (zA base)) ([.ref th, .int p1, .int p2] : List Value).toArray s 0 0 (zA base)) (F0 m 178 ls []) := by
    intro rA H locs ls v3 v4 v5 v6 v7 hC hl hf
    unfold f_X7_change_178 at hf
    refine lv_aload_n hx hb dX7_change_178 rfl (lv_at hl 0 rfl) ?_
    refine zg_7_27 hx hb hts hi7 hown hK hC hk_th w2 dX7_change_179 ?_
    obtain ⟨a20, ea20, hk_a20, hf⟩ := zn_inv hf
    refine z_ref ea20 ?_
    refine lv_iload_n hx hb dX7_change_182 rfl (lv_at hl 2 rfl) ?_
    refine lv_iconst (v := 1) hx hb dX7_change_183 (by decide) ?_
    obtain ⟨hix, hf⟩ := zx_inv hf
    obtain ⟨r21, er21, hf⟩ := zlet_inv hf
    refine xp_127 hx hb hK hC hk_a20 hix (Or.inr rfl) er21 dX7_change_184 (fun H locs hC => ?_)
    refine lv_aload_n hx hb dX7_change_185 rfl (lv_at hl 0 rfl) ?_
    refine zg_7_28 hx hb hts hi7 hown hK hC hk_th w3 dX7_change_186 ?_
    obtain ⟨a22, ea22, hk_a22, hf⟩ := zn_inv hf
    refine z_ref ea22 ?_
    refine lv_iload_n hx hb dX7_change_189 rfl (lv_at hl 1 rfl) ?_
    refine lv_iload hx hb dX7_change_190 (lv_at hl 7 rfl) ?_
    refine lv_if_eq (tgt := 200) hx hb dX7_change_192 (by decide) (fun h34 => ?_) (fun h34 => ?_)
    · have hf := zif_t hf h34
      refine lv_iload_n hx hb dX7_change_200 rfl (lv_at hl 3 rfl) ?_
      exact J201 _ _ _ _ v3 v4 v6 v7 a22 p1 v3 hk_a22 hC (lv_sub hl [0, 1, 2, 3, 4, 6, 7] rfl) hf
    · have hf := zif_f hf h34
      refine lv_iload hx hb dX7_change_195 (lv_at hl 5 rfl) ?_
      refine lv_goto (tgt := 201) hx hb dX7_change_197 (by decide) ?_
      exact J201 _ _ _ _ v3 v4 v6 v7 a22 p1 v5 hk_a22 hC (lv_sub hl [0, 1, 2, 3, 4, 6, 7] rfl) hf
  have J176 : ∀ (rA : zS) (H : Heap) (locs : List Loc) (ls : Array Slot) (v3 : Int32) (v4 : Int32) (v5 : Int32) (v6 : Int32) (s0 : Int32), zC D cy base K L (c, rA, o) s.heap H locs → lv_has ls 8 [(0, .ref th), (1, .int p1), (2, .int p2), (3, .int v3), (4, .int v4), (5, .int v5), (6, .int v6)] → f_X7_change_176 K z th p1 p2 rA v3 v4 v5 v6 s0 = some (rv, rf) → W p l e (headSpec wsX7_change ({ frames := 6, cells := 0, slots := 0, locals := 146 })).room s m ([.ref th, .int p1, .int p2] : List Value).toArray below meth cd H locs 0 0 (MQ below (va_Qi (fun (rr : Int32) (_ : Unit) => rr = rv) (fun _ => zB D cy base K L (c, rf, o)) (zA base)) ([.ref th, .int p1, .int p2] : List Value).toArray s 0 0 (zA base)) (F0 m 176 ls [.int s0]) := by
    intro rA H locs ls v3 v4 v5 v6 s0 hC hl hf
    unfold f_X7_change_176 at hf
    refine lv_istore (lv' := [(7, .int s0), (0, .ref th), (1, .int p1), (2, .int p2), (3, .int v3), (4, .int v4), (5, .int v5), (6, .int v6)]) hx hb dX7_change_176 hl (by decide) rfl (fun ls hl => ?_)
    exact J178 _ _ _ _ v3 v4 v5 v6 s0 hC (lv_sub hl [1, 2, 3, 4, 5, 6, 7, 0] rfl) hf
  have J137 : ∀ (rA : zS) (H : Heap) (locs : List Loc) (ls : Array Slot) (v3 : Int32) (v4 : Int32) (v5 : Int32) (v6 : Int32) (s0 : Int32), zC D cy base K L (c, rA, o) s.heap H locs → lv_has ls 8 [(0, .ref th), (1, .int p1), (2, .int p2), (3, .int v3), (4, .int v4), (5, .int v5), (6, .int v6)] → f_X7_change_137 K z th p1 p2 rA v3 v4 v5 v6 s0 = some (rv, rf) → W p l e (headSpec wsX7_change ({ frames := 6, cells := 0, slots := 0, locals := 146 })).room s m ([.ref th, .int p1, .int p2] : List Value).toArray below meth cd H locs 0 0 (MQ below (va_Qi (fun (rr : Int32) (_ : Unit) => rr = rv) (fun _ => zB D cy base K L (c, rf, o)) (zA base)) ([.ref th, .int p1, .int p2] : List Value).toArray s 0 0 (zA base)) (F0 m 137 ls [.int s0]) := by
    intro rA H locs ls v3 v4 v5 v6 s0 hC hl hf
    unfold f_X7_change_137 at hf
    refine lv_istore (lv' := [(7, .int s0), (0, .ref th), (1, .int p1), (2, .int p2), (3, .int v3), (4, .int v4), (5, .int v5), (6, .int v6)]) hx hb dX7_change_137 hl (by decide) rfl (fun ls hl => ?_)
    refine lv_iload hx hb dX7_change_139 (lv_at hl 0 rfl) ?_
    refine lv_if_eq (tgt := 178) hx hb dX7_change_141 (by decide) (fun h42 => ?_) (fun h42 => ?_)
    · have hf := zif_t hf h42
      exact J178 _ _ _ _ v3 v4 v5 v6 s0 hC (lv_sub hl [1, 2, 3, 4, 5, 6, 7, 0] rfl) hf
    · have hf := zif_f hf h42
      refine lv_aload_n hx hb dX7_change_144 rfl (lv_at hl 1 rfl) ?_
      refine zg_7_28 hx hb hts hi7 hown hK hC hk_th w3 dX7_change_145 ?_
      obtain ⟨a35, ea35, hk_a35, hf⟩ := zn_inv hf
      refine z_ref ea35 ?_
      refine lv_iload_n hx hb dX7_change_148 rfl (lv_at hl 2 rfl) ?_
      refine lv_iload hx hb dX7_change_149 (lv_at hl 6 rfl) ?_
      obtain ⟨hix, hf⟩ := zx_inv hf
      obtain ⟨r36, er36, hf⟩ := zlet_inv hf
      refine xp_128 hx hb hK hC hk_a35 hix er36 dX7_change_151 (fun H locs hC => ?_)
      refine lv_aload_n hx hb dX7_change_152 rfl (lv_at hl 1 rfl) ?_
      refine zg_7_29 hx hb hts hi7 hown hK hC hk_th w4 dX7_change_153 ?_
      obtain ⟨a37, ea37, hk_a37, hf⟩ := zn_inv hf
      refine z_ref ea37 ?_
      refine lv_iload_n hx hb dX7_change_156 rfl (lv_at hl 2 rfl) ?_
      refine lv_iload hx hb dX7_change_157 (lv_at hl 7 rfl) ?_
      obtain ⟨hix, hf⟩ := zx_inv hf
      obtain ⟨r38, er38, hf⟩ := zlet_inv hf
      refine xp_129 hx hb hK hC hk_a37 hix er38 dX7_change_159 (fun H locs hC => ?_)
      refine lv_aload_n hx hb dX7_change_160 rfl (lv_at hl 1 rfl) ?_
      refine lv_iload_n hx hb dX7_change_161 rfl (lv_at hl 3 rfl) ?_
      refine lv_iload_n hx hb dX7_change_162 rfl (lv_at hl 4 rfl) ?_
      refine lv_iload hx hb dX7_change_163 (lv_at hl 5 rfl) ?_
      obtain ⟨x40, hc39, hf⟩ := zb_inv hf
      refine z_ci (z_rV (As := [.int p2, .int v3, .int v4]) (rest := []) ⟨hx, hb, hml, hown, hts⟩ (c_X7_against (l := l) (D := D) (cy := cy) (base := base) (st := st) (K := K) (L := L) (c := c) (r := r38) (o := o) (z := z) th p2 v3 v4 hk_th hc39) (cwV 3 hts gX7_change_X7_against rfl rfl rfl (by decide +kernel) ⟨Nat.le_of_ble_eq_true rfl, Nat.le_of_ble_eq_true rfl⟩) hG hC (zC.recv (ci := 7) (fs := _) hK hC (by rw [hk_th]; decide) (by rw [hk_th]; exact zc_7 cy _ _) rfl) rfl hl.1 rfl (lv_room (Nat.le_of_ble_eq_true rfl)) dX7_change_165 ⟨Nat.le_of_ble_eq_true rfl, Nat.le_of_ble_eq_true rfl⟩) hC (fun H locs hC => ?_)
      refine lv_if_ne (tgt := 175) hx hb dX7_change_168 (by decide) (fun h41 => ?_) (fun h41 => ?_)
      · have hf := zif_f hf h41
        refine lv_iconst (v := 0) hx hb dX7_change_175 (by decide) ?_
        exact J176 _ _ _ _ v3 v4 v5 v6 0 hC (lv_sub hl [1, 2, 3, 4, 5, 6, 7] rfl) hf
      · have hf := zif_t hf h41
        refine lv_iconst (v := 1) hx hb dX7_change_171 (by decide) ?_
        refine lv_goto (tgt := 176) hx hb dX7_change_172 (by decide) ?_
        exact J176 _ _ _ _ v3 v4 v5 v6 1 hC (lv_sub hl [1, 2, 3, 4, 5, 6, 7] rfl) hf
  have J48 : ∀ (rA : zS) (H : Heap) (locs : List Loc) (ls : Array Slot) (s0 : Nat) (s1 : Int32), K s0 = 7 → zC D cy base K L (c, rA, o) s.heap H locs → lv_has ls 8 [(0, .ref th), (1, .int p1), (2, .int p2)] → f_X7_change_48 K z th p1 p2 rA s0 s1 = some (rv, rf) → W p l e (headSpec wsX7_change ({ frames := 6, cells := 0, slots := 0, locals := 146 })).room s m ([.ref th, .int p1, .int p2] : List Value).toArray below meth cd H locs 0 0 (MQ below (va_Qi (fun (rr : Int32) (_ : Unit) => rr = rv) (fun _ => zB D cy base K L (c, rf, o)) (zA base)) ([.ref th, .int p1, .int p2] : List Value).toArray s 0 0 (zA base)) (F0 m 48 ls [.int s1, .ref s0]) := by
    intro rA H locs ls s0 s1 hk_s0 hC hl hf
    unfold f_X7_change_48 at hf
    refine lv_iconst (v := 2) hx hb dX7_change_48 (by decide) ?_
    obtain ⟨x8, r9, hc7, hf⟩ := zb2_inv hf
    refine z_ci (z_rV (As := [.int s1, .int 2]) (rest := []) ⟨hx, hb, hml, hown, hts⟩ (c_X7_throwsIf (l := l) (D := D) (cy := cy) (base := base) (st := st) (K := K) (L := L) (c := c) (r := rA) (o := o) (z := z) s0 s1 2 hk_s0 hc7) (cwV 2 hts gX7_change_X7_throwsIf rfl rfl rfl (by decide +kernel) ⟨Nat.le_of_ble_eq_true rfl, Nat.le_of_ble_eq_true rfl⟩) hG hC (zC.recv (ci := 7) (fs := _) hK hC (by rw [hk_s0]; decide) (by rw [hk_s0]; exact zc_7 cy _ _) rfl) rfl hl.1 rfl (lv_room (Nat.le_of_ble_eq_true rfl)) dX7_change_49 ⟨Nat.le_of_ble_eq_true rfl, Nat.le_of_ble_eq_true rfl⟩) hC (fun H locs hC => ?_)
    refine lv_if_eq (tgt := 57) hx hb dX7_change_52 (by decide) (fun h47 => ?_) (fun h47 => ?_)
    · have hf := zif_t hf h47
      refine lv_iload_n hx hb dX7_change_57 rfl (lv_at hl 1 rfl) ?_
      refine lv_iload_n hx hb dX7_change_58 rfl (lv_at hl 2 rfl) ?_
      refine lv_icmp_eq (tgt := 80) hx hb dX7_change_59 (by decide) (fun h46 => ?_) (fun h46 => ?_)
      · have hf := zif_t hf h46
        refine lv_iconst (v := 0) hx hb dX7_change_80 (by decide) ?_
        exact z_zretM hx hb hr hlocks hC (Or.inl rfl) hf dX7_change_81
      · have hf := zif_f hf h46
        refine lv_aload_n hx hb dX7_change_62 rfl (lv_at hl 0 rfl) ?_
        refine zg_7_27 hx hb hts hi7 hown hK hC hk_th w2 dX7_change_63 ?_
        obtain ⟨a10, ea10, hk_a10, hf⟩ := zn_inv hf
        refine z_ref ea10 ?_
        refine lv_iload_n hx hb dX7_change_66 rfl (lv_at hl 1 rfl) ?_
        obtain ⟨hix, hf⟩ := zx_inv hf
        refine xg_127 hx hb hK hC hk_a10 hix dX7_change_67 ?_
        refine lv_if_eq (tgt := 80) hx hb dX7_change_68 (by decide) (fun h45 => ?_) (fun h45 => ?_)
        · have hf := zif_t hf h45
          refine lv_iconst (v := 0) hx hb dX7_change_80 (by decide) ?_
          exact z_zretM hx hb hr hlocks hC (Or.inl rfl) hf dX7_change_81
        · have hf := zif_f hf h45
          refine lv_aload_n hx hb dX7_change_71 rfl (lv_at hl 0 rfl) ?_
          refine zg_7_27 hx hb hts hi7 hown hK hC hk_th w2 dX7_change_72 ?_
          refine z_ref ea10 ?_
          refine lv_iload_n hx hb dX7_change_75 rfl (lv_at hl 2 rfl) ?_
          obtain ⟨hix, hf⟩ := zx_inv hf
          refine xg_127 hx hb hK hC hk_a10 hix dX7_change_76 ?_
          refine lv_if_ne (tgt := 82) hx hb dX7_change_77 (by decide) (fun h44 => ?_) (fun h44 => ?_)
          · have hf := zif_f hf h44
            refine lv_aload_n hx hb dX7_change_82 rfl (lv_at hl 0 rfl) ?_
            refine zg_7_28 hx hb hts hi7 hown hK hC hk_th w3 dX7_change_83 ?_
            obtain ⟨a11, ea11, hk_a11, hf⟩ := zn_inv hf
            refine z_ref ea11 ?_
            refine lv_iload_n hx hb dX7_change_86 rfl (lv_at hl 1 rfl) ?_
            obtain ⟨hix, hf⟩ := zx_inv hf
            refine xg_128 hx hb hK hC hk_a11 hix dX7_change_87 ?_
            obtain ⟨x12, ex12, hf⟩ := zlet_inv hf
            refine z_name ex12 ?_
            refine lv_istore_n (lv' := [(3, .int x12), (0, .ref th), (1, .int p1), (2, .int p2)]) hx hb dX7_change_88 rfl hl (by decide) rfl (fun ls hl => ?_)
            refine lv_aload_n hx hb dX7_change_89 rfl (lv_at hl 1 rfl) ?_
            refine zg_7_29 hx hb hts hi7 hown hK hC hk_th w4 dX7_change_90 ?_
            obtain ⟨a13, ea13, hk_a13, hf⟩ := zn_inv hf
            refine z_ref ea13 ?_
            refine lv_iload_n hx hb dX7_change_93 rfl (lv_at hl 2 rfl) ?_
            obtain ⟨hix, hf⟩ := zx_inv hf
            refine xg_129 hx hb hK hC hk_a13 hix dX7_change_94 ?_
            obtain ⟨x14, ex14, hf⟩ := zlet_inv hf
            refine z_name ex14 ?_
            refine lv_istore (lv' := [(4, .int x14), (3, .int x12), (0, .ref th), (1, .int p1), (2, .int p2)]) hx hb dX7_change_95 hl (by decide) rfl (fun ls hl => ?_)
            refine lv_aload_n hx hb dX7_change_97 rfl (lv_at hl 2 rfl) ?_
            refine zg_7_28 hx hb hts hi7 hown hK hC hk_th w3 dX7_change_98 ?_
            refine z_ref ea11 ?_
            refine lv_iload_n hx hb dX7_change_101 rfl (lv_at hl 4 rfl) ?_
            obtain ⟨hix, hf⟩ := zx_inv hf
            refine xg_128 hx hb hK hC hk_a11 hix dX7_change_102 ?_
            obtain ⟨x15, ex15, hf⟩ := zlet_inv hf
            refine z_name ex15 ?_
            refine lv_istore (lv' := [(5, .int x15), (4, .int x14), (3, .int x12), (0, .ref th), (1, .int p1), (2, .int p2)]) hx hb dX7_change_103 hl (by decide) rfl (fun ls hl => ?_)
            refine lv_aload_n hx hb dX7_change_105 rfl (lv_at hl 3 rfl) ?_
            refine zg_7_29 hx hb hts hi7 hown hK hC hk_th w4 dX7_change_106 ?_
            refine z_ref ea13 ?_
            refine lv_iload_n hx hb dX7_change_109 rfl (lv_at hl 5 rfl) ?_
            obtain ⟨hix, hf⟩ := zx_inv hf
            refine xg_129 hx hb hK hC hk_a13 hix dX7_change_110 ?_
            obtain ⟨x16, ex16, hf⟩ := zlet_inv hf
            refine z_name ex16 ?_
            refine lv_istore (lv' := [(6, .int x16), (5, .int x15), (4, .int x14), (3, .int x12), (0, .ref th), (1, .int p1), (2, .int p2)]) hx hb dX7_change_111 hl (by decide) rfl (fun ls hl => ?_)
            refine lv_aload_n hx hb dX7_change_113 rfl (lv_at hl 4 rfl) ?_
            refine zg_7_27 hx hb hts hi7 hown hK hC hk_th w2 dX7_change_114 ?_
            refine z_ref ea10 ?_
            refine lv_iload_n hx hb dX7_change_117 rfl (lv_at hl 6 rfl) ?_
            refine lv_iconst (v := 0) hx hb dX7_change_118 (by decide) ?_
            obtain ⟨hix, hf⟩ := zx_inv hf
            obtain ⟨r17, er17, hf⟩ := zlet_inv hf
            refine xp_127 hx hb hK hC hk_a10 hix (Or.inl rfl) er17 dX7_change_119 (fun H locs hC => ?_)
            refine lv_aload_n hx hb dX7_change_120 rfl (lv_at hl 4 rfl) ?_
            refine lv_iload_n hx hb dX7_change_121 rfl (lv_at hl 5 rfl) ?_
            refine lv_iload hx hb dX7_change_122 (lv_at hl 1 rfl) ?_
            refine lv_iload hx hb dX7_change_124 (lv_at hl 0 rfl) ?_
            obtain ⟨x19, hc18, hf⟩ := zb_inv hf
            refine z_ci (z_rV (As := [.int p1, .int x15, .int x16]) (rest := []) ⟨hx, hb, hml, hown, hts⟩ (c_X7_against (l := l) (D := D) (cy := cy) (base := base) (st := st) (K := K) (L := L) (c := c) (r := r17) (o := o) (z := z) th p1 x15 x16 hk_th hc18) (cwV 3 hts gX7_change_X7_against rfl rfl rfl (by decide +kernel) ⟨Nat.le_of_ble_eq_true rfl, Nat.le_of_ble_eq_true rfl⟩) hG hC (zC.recv (ci := 7) (fs := _) hK hC (by rw [hk_th]; decide) (by rw [hk_th]; exact zc_7 cy _ _) rfl) rfl hl.1 rfl (lv_room (Nat.le_of_ble_eq_true rfl)) dX7_change_126 ⟨Nat.le_of_ble_eq_true rfl, Nat.le_of_ble_eq_true rfl⟩) hC (fun H locs hC => ?_)
            refine lv_if_ne (tgt := 136) hx hb dX7_change_129 (by decide) (fun h43 => ?_) (fun h43 => ?_)
            · have hf := zif_f hf h43
              refine lv_iconst (v := 0) hx hb dX7_change_136 (by decide) ?_
              exact J137 _ _ _ _ x12 x14 x15 x16 0 hC (lv_sub hl [4, 5, 6, 3, 2, 1, 0] rfl) hf
            · have hf := zif_t hf h43
              refine lv_iconst (v := 1) hx hb dX7_change_132 (by decide) ?_
              refine lv_goto (tgt := 137) hx hb dX7_change_133 (by decide) ?_
              exact J137 _ _ _ _ x12 x14 x15 x16 1 hC (lv_sub hl [4, 5, 6, 3, 2, 1, 0] rfl) hf
          · have hf := zif_t hf h44
            refine lv_iconst (v := 0) hx hb dX7_change_80 (by decide) ?_
            exact z_zretM hx hb hr hlocks hC (Or.inl rfl) hf dX7_change_81
    · have hf := zif_f hf h47
      refine lv_iconst (v := 0) hx hb dX7_change_55 (by decide) ?_
      exact z_zretM hx hb hr hlocks hC (Or.inl rfl) hf dX7_change_56
  have J27 : ∀ (rA : zS) (H : Heap) (locs : List Loc) (ls : Array Slot) (s0 : Nat) (s1 : Int32), K s0 = 7 → zC D cy base K L (c, rA, o) s.heap H locs → lv_has ls 8 [(0, .ref th), (1, .int p1), (2, .int p2)] → f_X7_change_27 K z th p1 p2 rA s0 s1 = some (rv, rf) → W p l e (headSpec wsX7_change ({ frames := 6, cells := 0, slots := 0, locals := 146 })).room s m ([.ref th, .int p1, .int p2] : List Value).toArray below meth cd H locs 0 0 (MQ below (va_Qi (fun (rr : Int32) (_ : Unit) => rr = rv) (fun _ => zB D cy base K L (c, rf, o)) (zA base)) ([.ref th, .int p1, .int p2] : List Value).toArray s 0 0 (zA base)) (F0 m 27 ls [.int s1, .ref s0]) := by
    intro rA H locs ls s0 s1 hk_s0 hC hl hf
    unfold f_X7_change_27 at hf
    refine lv_iconst (v := 1) hx hb dX7_change_27 (by decide) ?_
    obtain ⟨x5, r6, hc4, hf⟩ := zb2_inv hf
    refine z_ci (z_rV (As := [.int s1, .int 1]) (rest := []) ⟨hx, hb, hml, hown, hts⟩ (c_X7_throwsIf (l := l) (D := D) (cy := cy) (base := base) (st := st) (K := K) (L := L) (c := c) (r := rA) (o := o) (z := z) s0 s1 1 hk_s0 hc4) (cwV 2 hts gX7_change_X7_throwsIf rfl rfl rfl (by decide +kernel) ⟨Nat.le_of_ble_eq_true rfl, Nat.le_of_ble_eq_true rfl⟩) hG hC (zC.recv (ci := 7) (fs := _) hK hC (by rw [hk_s0]; decide) (by rw [hk_s0]; exact zc_7 cy _ _) rfl) rfl hl.1 rfl (lv_room (Nat.le_of_ble_eq_true rfl)) dX7_change_28 ⟨Nat.le_of_ble_eq_true rfl, Nat.le_of_ble_eq_true rfl⟩) hC (fun H locs hC => ?_)
    refine lv_if_ne (tgt := 55) hx hb dX7_change_31 (by decide) (fun h49 => ?_) (fun h49 => ?_)
    · have hf := zif_f hf h49
      refine lv_iconst (v := 0) hx hb dX7_change_55 (by decide) ?_
      exact z_zretM hx hb hr hlocks hC (Or.inl rfl) hf dX7_change_56
    · have hf := zif_t hf h49
      refine lv_aload_n hx hb dX7_change_34 rfl (lv_at hl 0 rfl) ?_
      refine lv_aload_n hx hb dX7_change_35 rfl (lv_at hl 0 rfl) ?_
      refine zg_7_37 hx hb hts hi7 hown hK hC hk_th w1 dX7_change_36 ?_
      refine lv_iconst (v := 2) hx hb dX7_change_39 (by decide) ?_
      refine lv_icmp_ge (tgt := 47) hx hb dX7_change_40 (by decide) (fun h48 => ?_) (fun h48 => ?_)
      · have hf := zif_t hf h48
        refine lv_iconst (v := 0) hx hb dX7_change_47 (by decide) ?_
        exact J48 _ _ _ _ th 0 hk_th hC (lv_sub hl [0, 1, 2] rfl) hf
      · have hf := zif_f hf h48
        refine lv_iconst (v := 1) hx hb dX7_change_43 (by decide) ?_
        refine lv_goto (tgt := 48) hx hb dX7_change_44 (by decide) ?_
        exact J48 _ _ _ _ th 1 hk_th hC (lv_sub hl [0, 1, 2] rfl) hf
  have J22 : ∀ (rA : zS) (H : Heap) (locs : List Loc) (ls : Array Slot) (s0 : Nat), K s0 = 7 → zC D cy base K L (c, rA, o) s.heap H locs → lv_has ls 8 [(0, .ref th), (1, .int p1), (2, .int p2)] → f_X7_change_22 K z th p1 p2 rA s0 = some (rv, rf) → W p l e (headSpec wsX7_change ({ frames := 6, cells := 0, slots := 0, locals := 146 })).room s m ([.ref th, .int p1, .int p2] : List Value).toArray below meth cd H locs 0 0 (MQ below (va_Qi (fun (rr : Int32) (_ : Unit) => rr = rv) (fun _ => zB D cy base K L (c, rf, o)) (zA base)) ([.ref th, .int p1, .int p2] : List Value).toArray s 0 0 (zA base)) (F0 m 22 ls [.ref s0]) := by
    intro rA H locs ls s0 hk_s0 hC hl hf
    unfold f_X7_change_22 at hf
    refine lv_iconst (v := 1) hx hb dX7_change_22 (by decide) ?_
    refine lv_goto (tgt := 27) hx hb dX7_change_23 (by decide) ?_
    exact J27 _ _ _ _ s0 1 hk_s0 hC (lv_sub hl [0, 1, 2] rfl) hf
  unfold f_X7_change at hf
  refine lv_aload_n hx hb dX7_change_0 rfl (lv_at hl 0 rfl) ?_
  refine lv_iconst (v := 0) hx hb dX7_change_1 (by decide) ?_
  obtain ⟨r1, er1, hf⟩ := zlet_inv hf
  refine zp_7_0 hx hb hts hi7 hown hK hC hk_th w0 er1 dX7_change_2 (fun H locs hC => ?_)
  refine lv_aload_n hx hb dX7_change_5 rfl (lv_at hl 0 rfl) ?_
  refine lv_aload_n hx hb dX7_change_6 rfl (lv_at hl 0 rfl) ?_
  refine lv_iload_n hx hb dX7_change_7 rfl (lv_at hl 1 rfl) ?_
  obtain ⟨x3, hc2, hf⟩ := zb_inv hf
  refine z_ci (z_rV (As := [.int p1]) (rest := [.ref th]) ⟨hx, hb, hml, hown, hts⟩ (c_X7_noTrader (l := l) (D := D) (cy := cy) (base := base) (st := st) (K := K) (L := L) (c := c) (r := r1) (o := o) (z := z) th p1 hk_th hc2) (cwV 1 hts gX7_change_X7_noTrader rfl rfl rfl (by decide +kernel) ⟨Nat.le_of_ble_eq_true rfl, Nat.le_of_ble_eq_true rfl⟩) hG hC (zC.recv (ci := 7) (fs := _) hK hC (by rw [hk_th]; decide) (by rw [hk_th]; exact zc_7 cy _ _) rfl) rfl hl.1 rfl (lv_room (Nat.le_of_ble_eq_true rfl)) dX7_change_8 ⟨Nat.le_of_ble_eq_true rfl, Nat.le_of_ble_eq_true rfl⟩) hC (fun H locs hC => ?_)
  refine lv_if_ne (tgt := 22) hx hb dX7_change_11 (by decide) (fun h53 => ?_) (fun h53 => ?_)
  · have hf := zif_f hf h53
    exact J22 _ _ _ _ th hk_th hC (lv_sub hl [0, 1, 2] rfl) hf
  · have hf := zif_t hf h53
    refine lv_aload_n hx hb dX7_change_14 rfl (lv_at hl 0 rfl) ?_
    refine lv_iload_n hx hb dX7_change_15 rfl (lv_at hl 2 rfl) ?_
    obtain ⟨x51, hc50, hf⟩ := zb_inv hf
    refine z_ci (z_rV (As := [.int p2]) (rest := [.ref th]) ⟨hx, hb, hml, hown, hts⟩ (c_X7_noTrader (l := l) (D := D) (cy := cy) (base := base) (st := st) (K := K) (L := L) (c := c) (r := r1) (o := o) (z := z) th p2 hk_th hc50) (cwV 1 hts gX7_change_X7_noTrader rfl rfl rfl (by decide +kernel) ⟨Nat.le_of_ble_eq_true rfl, Nat.le_of_ble_eq_true rfl⟩) hG hC (zC.recv (ci := 7) (fs := _) hK hC (by rw [hk_th]; decide) (by rw [hk_th]; exact zc_7 cy _ _) rfl) rfl hl.1 rfl (lv_room (Nat.le_of_ble_eq_true rfl)) dX7_change_16 ⟨Nat.le_of_ble_eq_true rfl, Nat.le_of_ble_eq_true rfl⟩) hC (fun H locs hC => ?_)
    refine lv_if_eq (tgt := 26) hx hb dX7_change_19 (by decide) (fun h52 => ?_) (fun h52 => ?_)
    · have hf := zif_t hf h52
      refine lv_iconst (v := 0) hx hb dX7_change_26 (by decide) ?_
      exact J27 _ _ _ _ th 0 hk_th hC (lv_sub hl [0, 1, 2] rfl) hf
    · have hf := zif_f hf h52
      exact J22 _ _ _ _ th hk_th hC (lv_sub hl [0, 1, 2] rfl) hf
def f_X7_goes_69 (K : Nat → Nat) (z : Nat) (th : Nat) (p1 : Int32) (rA : zS) (s0 : Int32) : Option (Int32 × zS) :=
  zn K (zr rA 27 th 0) 127 fun a6 => zx p1 200 <| zlet (zui rA 127 a6 (Int32.toNatClampNeg p1) 0) fun r7 => zn K (zr r7 34 th 0) 134 fun a8 => zx p1 200 <| zx p1 200 <| zlet (zul r7 134 a8 (Int32.toNatClampNeg p1) ((zl r7 134 a8 (Int32.toNatClampNeg p1)) + (Int32.toInt64 s0))) fun r9 => zlet (zul r9 43 th 0 ((zl r9 43 th 0) + (Int32.toInt64 s0))) fun r10 => some (s0, r10)
def f_X7_goes_30 (K : Nat → Nat) (z : Nat) (th : Nat) (p1 : Int32) (rA : zS) (s0 : Int32) : Option (Int32 × zS) :=
  zn K (zr rA 8 th 0) 108 fun a2 => zx p1 200 <| (if (zi rA 108 a2 (Int32.toNatClampNeg p1)) = 4 then f_X7_goes_69 K z th p1 rA 0 else zn K (zr rA 10 th 0) 110 fun a3 => zx p1 200 <| zn K (zr rA 3 th 0) 103 fun a4 => zn K (zr rA 9 th 0) 109 fun a5 => zx p1 200 <| zx (zi rA 109 a5 (Int32.toNatClampNeg p1)) 20 <| f_X7_goes_69 K z th p1 rA (((((zi rA 110 a3 (Int32.toNatClampNeg p1)) + 1) / 2) * s0) * (zi rA 103 a4 (Int32.toNatClampNeg (zi rA 109 a5 (Int32.toNatClampNeg p1))))))
def f_X7_goes (K : Nat → Nat) (z : Nat) (r : zS) (th : Nat) (p1 : Int32) : Option (Int32 × zS) :=
  zn K (zr r 30 th 0) 130 fun a1 => zx p1 200 <| (if 1 ≤ ((zi r 39 th 0) - (zi r 130 a1 (Int32.toNatClampNeg p1))) then zx p1 200 <| f_X7_goes_30 K z th p1 r ((zi r 39 th 0) - (zi r 130 a1 (Int32.toNatClampNeg p1))) else f_X7_goes_30 K z th p1 r 1)
set_option maxRecDepth 100000 in
set_option maxHeartbeats 4000000 in
theorem c_X7_goes {l : Launch} {D : va_G} {cy : Nat → ClassId} {base : Nat} {st : Nat → Nat} {K : Nat → Nat} {L : List Nat} {c r : zS} {o : Int64} {z : Nat} (th : Nat) (p1 : Int32) {rv : Int32} {rf : zS}  (hk_th : K th = 7) (hf : f_X7_goes K z r th p1 = some (rv, rf)) : Met l yX7_goes wsX7_goes ({ frames := 0, cells := 0, slots := 0, locals := 0 }) (va_Pc [.ref th, .int p1] (zGW zts0 zns0 D cy base st K L (c, r, o))) (va_Qi (fun (rr : Int32) (_ : Unit) => rr = rv) (fun _ => zB D cy base K L (c, rf, o)) (zA base)) 0 0 (zA base) := by
  refine Met.ofW (cc := cX7_goes) (maxL := 4) (ret := (some .int)) (by decide) rfl ?_
  intro p e s m args below meth cd s₁ B hml hv
  obtain ⟨rfl, hG⟩ := hv
  have hx := B.exec
  have hb := B.bytes
  have hr := B.returns
  have hts := atoms_spec (ws := wsX7_goes) B.pre
  have hown : s.vm.findClass RX7 = some m.cls := findClass_of_methodNamed B.named
  have hlocks := B.notSynchronized
  have hC := hG.enter
  have hK := hG.2.2.2.1
  have hi7 : ∀ w ∈ wsX70, w ∈ wsX7_goes := by decide +kernel
  have w0 := hts (.fieldLink RX7 220 "MarketSquareModel" "hour" "I") (by decide +kernel)
  have w1 := hts (.fieldLink RX7 96 "MarketSquareModel" "stallHour" "[I") (by decide +kernel)
  have w2 := hts (.fieldLink RX7 30 "MarketSquareModel" "kind" "[I") (by decide +kernel)
  have w3 := hts (.fieldLink RX7 36 "MarketSquareModel" "front" "[I") (by decide +kernel)
  have w4 := hts (.fieldLink RX7 17 "MarketSquareModel" "rates" "[I") (by decide +kernel)
  have w5 := hts (.fieldLink RX7 33 "MarketSquareModel" "trade" "[I") (by decide +kernel)
  have w6 := hts (.fieldLink RX7 87 "MarketSquareModel" "stands" "[Z") (by decide +kernel)
  have w7 := hts (.fieldLink RX7 108 "MarketSquareModel" "owed" "[J") (by decide +kernel)
  have w8 := hts (.fieldLink RX7 223 "MarketSquareModel" "fees" "J") (by decide +kernel)
  have hl := lv_entry ([.ref th, .int p1]) (n := 4) (Nat.le_of_ble_eq_true rfl)
  rw [lg_entry_eq]
  generalize (lg_sl ([.ref th, .int p1]) ++ List.replicate (4 - (lg_sl ([.ref th, .int p1])).length) Slot.unset).toArray = ls at hl ⊢
  have hl : lv_has ls 4 [(0, .ref th), (1, .int p1)] := hl
  have J69 : ∀ (rA : zS) (H : Heap) (locs : List Loc) (ls : Array Slot) (s0 : Int32), zC D cy base K L (c, rA, o) s.heap H locs → lv_has ls 4 [(0, .ref th), (1, .int p1)] → f_X7_goes_69 K z th p1 rA s0 = some (rv, rf) → W p l e (headSpec wsX7_goes ({ frames := 0, cells := 0, slots := 0, locals := 0 })).room s m ([.ref th, .int p1] : List Value).toArray below meth cd H locs 0 0 (MQ below (va_Qi (fun (rr : Int32) (_ : Unit) => rr = rv) (fun _ => zB D cy base K L (c, rf, o)) (zA base)) ([.ref th, .int p1] : List Value).toArray s 0 0 (zA base)) (F0 m 69 ls [.int s0]) := by
    intro rA H locs ls s0 hC hl hf
    unfold f_X7_goes_69 at hf
    refine lv_istore_n (lv' := [(3, .int s0), (0, .ref th), (1, .int p1)]) hx hb dX7_goes_69 rfl hl (by decide) rfl (fun ls hl => ?_)
    refine lv_aload_n hx hb dX7_goes_70 rfl (lv_at hl 1 rfl) ?_
    refine zg_7_27 hx hb hts hi7 hown hK hC hk_th w6 dX7_goes_71 ?_
    obtain ⟨a6, ea6, hk_a6, hf⟩ := zn_inv hf
    refine z_ref ea6 ?_
    refine lv_iload_n hx hb dX7_goes_74 rfl (lv_at hl 2 rfl) ?_
    refine lv_iconst (v := 0) hx hb dX7_goes_75 (by decide) ?_
    obtain ⟨hix, hf⟩ := zx_inv hf
    obtain ⟨r7, er7, hf⟩ := zlet_inv hf
    refine xp_127 hx hb hK hC hk_a6 hix (Or.inl rfl) er7 dX7_goes_76 (fun H locs hC => ?_)
    refine lv_aload_n hx hb dX7_goes_77 rfl (lv_at hl 1 rfl) ?_
    refine zg_7_34 hx hb hts hi7 hown hK hC hk_th w7 dX7_goes_78 ?_
    obtain ⟨a8, ea8, hk_a8, hf⟩ := zn_inv hf
    refine z_ref ea8 ?_
    refine lv_iload_n hx hb dX7_goes_81 rfl (lv_at hl 2 rfl) ?_
    refine lv_dup2_11 hx hb dX7_goes_82 rfl rfl ?_
    obtain ⟨hix, hf⟩ := zx_inv hf
    refine xg_134 hx hb hK hC hk_a8 hix dX7_goes_83 ?_
    refine lv_iload_n hx hb dX7_goes_84 rfl (lv_at hl 0 rfl) ?_
    refine lv_i2l (v := (Int32.toInt64 s0)) hx hb dX7_goes_85 rfl ?_
    refine lv_ladd hx hb dX7_goes_86 ?_
    obtain ⟨hix, hf⟩ := zx_inv hf
    obtain ⟨r9, er9, hf⟩ := zlet_inv hf
    refine xp_134 hx hb hK hC hk_a8 hix er9 dX7_goes_87 (fun H locs hC => ?_)
    refine lv_aload_n hx hb dX7_goes_88 rfl (lv_at hl 1 rfl) ?_
    refine lv_dup hx hb dX7_goes_89 rfl ?_
    refine zg_7_43 hx hb hts hi7 hown hK hC hk_th w8 dX7_goes_90 ?_
    refine lv_iload_n hx hb dX7_goes_93 rfl (lv_at hl 0 rfl) ?_
    refine lv_i2l (v := (Int32.toInt64 s0)) hx hb dX7_goes_94 rfl ?_
    refine lv_ladd hx hb dX7_goes_95 ?_
    obtain ⟨r10, er10, hf⟩ := zlet_inv hf
    refine zp_7_43 hx hb hts hi7 hown hK hC hk_th w8 er10 dX7_goes_96 (fun H locs hC => ?_)
    refine lv_iload_n hx hb dX7_goes_99 rfl (lv_at hl 0 rfl) ?_
    exact z_iretM hx hb hr hlocks hC hf dX7_goes_100
  have J30 : ∀ (rA : zS) (H : Heap) (locs : List Loc) (ls : Array Slot) (s0 : Int32), zC D cy base K L (c, rA, o) s.heap H locs → lv_has ls 4 [(0, .ref th), (1, .int p1)] → f_X7_goes_30 K z th p1 rA s0 = some (rv, rf) → W p l e (headSpec wsX7_goes ({ frames := 0, cells := 0, slots := 0, locals := 0 })).room s m ([.ref th, .int p1] : List Value).toArray below meth cd H locs 0 0 (MQ below (va_Qi (fun (rr : Int32) (_ : Unit) => rr = rv) (fun _ => zB D cy base K L (c, rf, o)) (zA base)) ([.ref th, .int p1] : List Value).toArray s 0 0 (zA base)) (F0 m 30 ls [.int s0]) := by
    intro rA H locs ls s0 hC hl hf
    unfold f_X7_goes_30 at hf
    refine lv_istore_n (lv' := [(2, .int s0), (0, .ref th), (1, .int p1)]) hx hb dX7_goes_30 rfl hl (by decide) rfl (fun ls hl => ?_)
    refine lv_aload_n hx hb dX7_goes_31 rfl (lv_at hl 1 rfl) ?_
    refine zg_7_8 hx hb hts hi7 hown hK hC hk_th w2 dX7_goes_32 ?_
    obtain ⟨a2, ea2, hk_a2, hf⟩ := zn_inv hf
    refine z_ref ea2 ?_
    refine lv_iload_n hx hb dX7_goes_35 rfl (lv_at hl 2 rfl) ?_
    obtain ⟨hix, hf⟩ := zx_inv hf
    refine xg_108 hx hb hK hC hk_a2 hix dX7_goes_36 ?_
    refine lv_iconst (v := 4) hx hb dX7_goes_37 (by decide) ?_
    refine lv_icmp_ne (tgt := 45) hx hb dX7_goes_38 (by decide) (fun h11 => ?_) (fun h11 => ?_)
    · have hf := zif_f hf h11
      refine lv_aload_n hx hb dX7_goes_45 rfl (lv_at hl 1 rfl) ?_
      refine zg_7_10 hx hb hts hi7 hown hK hC hk_th w3 dX7_goes_46 ?_
      obtain ⟨a3, ea3, hk_a3, hf⟩ := zn_inv hf
      refine z_ref ea3 ?_
      refine lv_iload_n hx hb dX7_goes_49 rfl (lv_at hl 2 rfl) ?_
      obtain ⟨hix, hf⟩ := zx_inv hf
      refine xg_110 hx hb hK hC hk_a3 hix dX7_goes_50 ?_
      refine lv_iconst (v := 1) hx hb dX7_goes_51 (by decide) ?_
      refine lv_iadd hx hb dX7_goes_52 ?_
      refine lv_iconst (v := 2) hx hb dX7_goes_53 (by decide) ?_
      refine lv_idiv hx hb dX7_goes_54 (by decide) ?_
      refine lv_iload_n hx hb dX7_goes_55 rfl (lv_at hl 0 rfl) ?_
      refine lv_imul hx hb dX7_goes_56 ?_
      refine lv_aload_n hx hb dX7_goes_57 rfl (lv_at hl 1 rfl) ?_
      refine zg_7_3 hx hb hts hi7 hown hK hC hk_th w4 dX7_goes_58 ?_
      obtain ⟨a4, ea4, hk_a4, hf⟩ := zn_inv hf
      refine z_ref ea4 ?_
      refine lv_aload_n hx hb dX7_goes_61 rfl (lv_at hl 1 rfl) ?_
      refine zg_7_9 hx hb hts hi7 hown hK hC hk_th w5 dX7_goes_62 ?_
      obtain ⟨a5, ea5, hk_a5, hf⟩ := zn_inv hf
      refine z_ref ea5 ?_
      refine lv_iload_n hx hb dX7_goes_65 rfl (lv_at hl 2 rfl) ?_
      obtain ⟨hix, hf⟩ := zx_inv hf
      refine xg_109 hx hb hK hC hk_a5 hix dX7_goes_66 ?_
      obtain ⟨hix, hf⟩ := zx_inv hf
      refine xg_103 hx hb hK hC hk_a4 hix dX7_goes_67 ?_
      refine lv_imul hx hb dX7_goes_68 ?_
      exact J69 _ _ _ _ (((((zi rA 110 a3 (Int32.toNatClampNeg p1)) + 1) / 2) * s0) * (zi rA 103 a4 (Int32.toNatClampNeg (zi rA 109 a5 (Int32.toNatClampNeg p1))))) hC (lv_sub hl [1, 2] rfl) hf
    · have hf := zif_t hf h11
      refine lv_iconst (v := 0) hx hb dX7_goes_41 (by decide) ?_
      refine lv_goto (tgt := 69) hx hb dX7_goes_42 (by decide) ?_
      exact J69 _ _ _ _ 0 hC (lv_sub hl [1, 2] rfl) hf
  unfold f_X7_goes at hf
  refine lv_aload_n hx hb dX7_goes_0 rfl (lv_at hl 0 rfl) ?_
  refine zg_7_39 hx hb hts hi7 hown hK hC hk_th w0 dX7_goes_1 ?_
  refine lv_aload_n hx hb dX7_goes_4 rfl (lv_at hl 0 rfl) ?_
  refine zg_7_30 hx hb hts hi7 hown hK hC hk_th w1 dX7_goes_5 ?_
  obtain ⟨a1, ea1, hk_a1, hf⟩ := zn_inv hf
  refine z_ref ea1 ?_
  refine lv_iload_n hx hb dX7_goes_8 rfl (lv_at hl 1 rfl) ?_
  obtain ⟨hix, hf⟩ := zx_inv hf
  refine xg_130 hx hb hK hC hk_a1 hix dX7_goes_9 ?_
  refine lv_isub hx hb dX7_goes_10 ?_
  refine lv_iconst (v := 1) hx hb dX7_goes_11 (by decide) ?_
  refine lv_icmp_ge (tgt := 19) hx hb dX7_goes_12 (by decide) (fun h12 => ?_) (fun h12 => ?_)
  · have hf := zif_t hf h12
    refine lv_aload_n hx hb dX7_goes_19 rfl (lv_at hl 0 rfl) ?_
    refine zg_7_39 hx hb hts hi7 hown hK hC hk_th w0 dX7_goes_20 ?_
    refine lv_aload_n hx hb dX7_goes_23 rfl (lv_at hl 0 rfl) ?_
    refine zg_7_30 hx hb hts hi7 hown hK hC hk_th w1 dX7_goes_24 ?_
    refine z_ref ea1 ?_
    refine lv_iload_n hx hb dX7_goes_27 rfl (lv_at hl 1 rfl) ?_
    obtain ⟨hix, hf⟩ := zx_inv hf
    refine xg_130 hx hb hK hC hk_a1 hix dX7_goes_28 ?_
    refine lv_isub hx hb dX7_goes_29 ?_
    exact J30 _ _ _ _ ((zi r 39 th 0) - (zi r 130 a1 (Int32.toNatClampNeg p1))) hC (lv_sub hl [0, 1] rfl) hf
  · have hf := zif_f hf h12
    refine lv_iconst (v := 1) hx hb dX7_goes_15 (by decide) ?_
    refine lv_goto (tgt := 30) hx hb dX7_goes_16 (by decide) ?_
    exact J30 _ _ _ _ 1 hC (lv_sub hl [0, 1] rfl) hf
def f_X7_leave_32 (K : Nat → Nat) (z : Nat) (th : Nat) (p1 : Int32) (rA : zS) (s0 : Nat) (s1 : Int32) : Option (Int32 × zS) :=
  zb2 (f_X7_throwsIf K z rA s0 s1 2) fun x8 r9 => (if x8 = 0 then zn K (zr r9 27 th 0) 127 fun a10 => zx p1 200 <| (if (zi r9 127 a10 (Int32.toNatClampNeg p1)) = 0 then some ((-1), r9) else zn K (zr r9 25 th 0) 125 fun a11 => zx p1 200 <| zlet (zui r9 125 a11 (Int32.toNatClampNeg p1) 1) fun r12 => zb2 (f_X7_goes K z r12 th p1) fun x14 r15 => some (x14, r15)) else some (0, r9))
def f_X7_leave (K : Nat → Nat) (z : Nat) (r : zS) (th : Nat) (p1 : Int32) : Option (Int32 × zS) :=
  zlet (zui r 0 th 0 0) fun r1 => zb (f_X7_noTrader K z r1 th p1) fun x3 => zb2 (f_X7_throwsIf K z r1 th x3 1) fun x5 r6 => (if x5 = 0 then (if 2 ≤ (zi r6 37 th 0) then f_X7_leave_32 K z th p1 r6 th 0 else f_X7_leave_32 K z th p1 r6 th 1) else some (0, r6))
set_option maxRecDepth 100000 in
set_option maxHeartbeats 4000000 in
theorem c_X7_leave {l : Launch} {D : va_G} {cy : Nat → ClassId} {base : Nat} {st : Nat → Nat} {K : Nat → Nat} {L : List Nat} {c r : zS} {o : Int64} {z : Nat} (th : Nat) (p1 : Int32) {rv : Int32} {rf : zS}  (hk_th : K th = 7) (hf : f_X7_leave K z r th p1 = some (rv, rf)) : Met l yX7_leave wsX7_leave ({ frames := 1, cells := 0, slots := 0, locals := 23 }) (va_Pc [.ref th, .int p1] (zGW zts0 zns0 D cy base st K L (c, r, o))) (va_Qi (fun (rr : Int32) (_ : Unit) => rr = rv) (fun _ => zB D cy base K L (c, rf, o)) (zA base)) 0 0 (zA base) := by
  refine Met.ofW (cc := cX7_leave) (maxL := 2) (ret := (some .int)) (by decide) rfl ?_
  intro p e s m args below meth cd s₁ B hml hv
  obtain ⟨rfl, hG⟩ := hv
  have hx := B.exec
  have hb := B.bytes
  have hr := B.returns
  have hts := atoms_spec (ws := wsX7_leave) B.pre
  have hown : s.vm.findClass RX7 = some m.cls := findClass_of_methodNamed B.named
  have hlocks := B.notSynchronized
  have hC := hG.enter
  have hK := hG.2.2.2.1
  have hi7 : ∀ w ∈ wsX70, w ∈ wsX7_leave := by decide +kernel
  have w0 := hts (.fieldLink RX7 127 "MarketSquareModel" "thrown" "I") (by decide +kernel)
  have w1 := hts (.fieldLink RX7 214 "MarketSquareModel" "time" "I") (by decide +kernel)
  have w2 := hts (.fieldLink RX7 87 "MarketSquareModel" "stands" "[Z") (by decide +kernel)
  have w3 := hts (.fieldLink RX7 81 "MarketSquareModel" "hasLeft" "[Z") (by decide +kernel)
  have hl := lv_entry ([.ref th, .int p1]) (n := 2) (Nat.le_of_ble_eq_true rfl)
  rw [lg_entry_eq]
  generalize (lg_sl ([.ref th, .int p1]) ++ List.replicate (2 - (lg_sl ([.ref th, .int p1])).length) Slot.unset).toArray = ls at hl ⊢
  have hl : lv_has ls 2 [(0, .ref th), (1, .int p1)] := hl
  have J32 : ∀ (rA : zS) (H : Heap) (locs : List Loc) (ls : Array Slot) (s0 : Nat) (s1 : Int32), K s0 = 7 → zC D cy base K L (c, rA, o) s.heap H locs → lv_has ls 2 [(0, .ref th), (1, .int p1)] → f_X7_leave_32 K z th p1 rA s0 s1 = some (rv, rf) → W p l e (headSpec wsX7_leave ({ frames := 1, cells := 0, slots := 0, locals := 23 })).room s m ([.ref th, .int p1] : List Value).toArray below meth cd H locs 0 0 (MQ below (va_Qi (fun (rr : Int32) (_ : Unit) => rr = rv) (fun _ => zB D cy base K L (c, rf, o)) (zA base)) ([.ref th, .int p1] : List Value).toArray s 0 0 (zA base)) (F0 m 32 ls [.int s1, .ref s0]) := by
    intro rA H locs ls s0 s1 hk_s0 hC hl hf
    unfold f_X7_leave_32 at hf
    refine lv_iconst (v := 2) hx hb dX7_leave_32 (by decide) ?_
    obtain ⟨x8, r9, hc7, hf⟩ := zb2_inv hf
    refine z_ci (z_rV (As := [.int s1, .int 2]) (rest := []) ⟨hx, hb, hml, hown, hts⟩ (c_X7_throwsIf (l := l) (D := D) (cy := cy) (base := base) (st := st) (K := K) (L := L) (c := c) (r := rA) (o := o) (z := z) s0 s1 2 hk_s0 hc7) (cwV 2 hts gX7_leave_X7_throwsIf rfl rfl rfl (by decide +kernel) ⟨Nat.le_of_ble_eq_true rfl, Nat.le_of_ble_eq_true rfl⟩) hG hC (zC.recv (ci := 7) (fs := _) hK hC (by rw [hk_s0]; decide) (by rw [hk_s0]; exact zc_7 cy _ _) rfl) rfl hl.1 rfl (lv_room (Nat.le_of_ble_eq_true rfl)) dX7_leave_33 ⟨Nat.le_of_ble_eq_true rfl, Nat.le_of_ble_eq_true rfl⟩) hC (fun H locs hC => ?_)
    refine lv_if_eq (tgt := 41) hx hb dX7_leave_36 (by decide) (fun h17 => ?_) (fun h17 => ?_)
    · have hf := zif_t hf h17
      refine lv_aload_n hx hb dX7_leave_41 rfl (lv_at hl 0 rfl) ?_
      refine zg_7_27 hx hb hts hi7 hown hK hC hk_th w2 dX7_leave_42 ?_
      obtain ⟨a10, ea10, hk_a10, hf⟩ := zn_inv hf
      refine z_ref ea10 ?_
      refine lv_iload_n hx hb dX7_leave_45 rfl (lv_at hl 1 rfl) ?_
      obtain ⟨hix, hf⟩ := zx_inv hf
      refine xg_127 hx hb hK hC hk_a10 hix dX7_leave_46 ?_
      refine lv_if_ne (tgt := 52) hx hb dX7_leave_47 (by decide) (fun h16 => ?_) (fun h16 => ?_)
      · have hf := zif_f hf h16
        refine lv_aload_n hx hb dX7_leave_52 rfl (lv_at hl 0 rfl) ?_
        refine zg_7_25 hx hb hts hi7 hown hK hC hk_th w3 dX7_leave_53 ?_
        obtain ⟨a11, ea11, hk_a11, hf⟩ := zn_inv hf
        refine z_ref ea11 ?_
        refine lv_iload_n hx hb dX7_leave_56 rfl (lv_at hl 1 rfl) ?_
        refine lv_iconst (v := 1) hx hb dX7_leave_57 (by decide) ?_
        obtain ⟨hix, hf⟩ := zx_inv hf
        obtain ⟨r12, er12, hf⟩ := zlet_inv hf
        refine xp_125 hx hb hK hC hk_a11 hix (Or.inr rfl) er12 dX7_leave_58 (fun H locs hC => ?_)
        refine lv_aload_n hx hb dX7_leave_59 rfl (lv_at hl 0 rfl) ?_
        refine lv_iload_n hx hb dX7_leave_60 rfl (lv_at hl 1 rfl) ?_
        obtain ⟨x14, r15, hc13, hf⟩ := zb2_inv hf
        refine z_ci (z_rV (As := [.int p1]) (rest := []) ⟨hx, hb, hml, hown, hts⟩ (c_X7_goes (l := l) (D := D) (cy := cy) (base := base) (st := st) (K := K) (L := L) (c := c) (r := r12) (o := o) (z := z) th p1 hk_th hc13) (cwV 1 hts gX7_leave_X7_goes rfl rfl rfl (by decide +kernel) ⟨Nat.le_of_ble_eq_true rfl, Nat.le_of_ble_eq_true rfl⟩) hG hC (zC.recv (ci := 7) (fs := _) hK hC (by rw [hk_th]; decide) (by rw [hk_th]; exact zc_7 cy _ _) rfl) rfl hl.1 rfl (lv_room (Nat.le_of_ble_eq_true rfl)) dX7_leave_61 ⟨Nat.le_of_ble_eq_true rfl, Nat.le_of_ble_eq_true rfl⟩) hC (fun H locs hC => ?_)
        exact z_iretM hx hb hr hlocks hC hf dX7_leave_64
      · have hf := zif_t hf h16
        refine lv_iconst (v := (-1)) hx hb dX7_leave_50 (by decide) ?_
        exact z_iretM hx hb hr hlocks hC hf dX7_leave_51
    · have hf := zif_f hf h17
      refine lv_iconst (v := 0) hx hb dX7_leave_39 (by decide) ?_
      exact z_iretM hx hb hr hlocks hC hf dX7_leave_40
  unfold f_X7_leave at hf
  refine lv_aload_n hx hb dX7_leave_0 rfl (lv_at hl 0 rfl) ?_
  refine lv_iconst (v := 0) hx hb dX7_leave_1 (by decide) ?_
  obtain ⟨r1, er1, hf⟩ := zlet_inv hf
  refine zp_7_0 hx hb hts hi7 hown hK hC hk_th w0 er1 dX7_leave_2 (fun H locs hC => ?_)
  refine lv_aload_n hx hb dX7_leave_5 rfl (lv_at hl 0 rfl) ?_
  refine lv_aload_n hx hb dX7_leave_6 rfl (lv_at hl 0 rfl) ?_
  refine lv_iload_n hx hb dX7_leave_7 rfl (lv_at hl 1 rfl) ?_
  obtain ⟨x3, hc2, hf⟩ := zb_inv hf
  refine z_ci (z_rV (As := [.int p1]) (rest := [.ref th]) ⟨hx, hb, hml, hown, hts⟩ (c_X7_noTrader (l := l) (D := D) (cy := cy) (base := base) (st := st) (K := K) (L := L) (c := c) (r := r1) (o := o) (z := z) th p1 hk_th hc2) (cwV 1 hts gX7_leave_X7_noTrader rfl rfl rfl (by decide +kernel) ⟨Nat.le_of_ble_eq_true rfl, Nat.le_of_ble_eq_true rfl⟩) hG hC (zC.recv (ci := 7) (fs := _) hK hC (by rw [hk_th]; decide) (by rw [hk_th]; exact zc_7 cy _ _) rfl) rfl hl.1 rfl (lv_room (Nat.le_of_ble_eq_true rfl)) dX7_leave_8 ⟨Nat.le_of_ble_eq_true rfl, Nat.le_of_ble_eq_true rfl⟩) hC (fun H locs hC => ?_)
  refine lv_iconst (v := 1) hx hb dX7_leave_11 (by decide) ?_
  obtain ⟨x5, r6, hc4, hf⟩ := zb2_inv hf
  refine z_ci (z_rV (As := [.int x3, .int 1]) (rest := []) ⟨hx, hb, hml, hown, hts⟩ (c_X7_throwsIf (l := l) (D := D) (cy := cy) (base := base) (st := st) (K := K) (L := L) (c := c) (r := r1) (o := o) (z := z) th x3 1 hk_th hc4) (cwV 2 hts gX7_leave_X7_throwsIf rfl rfl rfl (by decide +kernel) ⟨Nat.le_of_ble_eq_true rfl, Nat.le_of_ble_eq_true rfl⟩) hG hC (zC.recv (ci := 7) (fs := _) hK hC (by rw [hk_th]; decide) (by rw [hk_th]; exact zc_7 cy _ _) rfl) rfl hl.1 rfl (lv_room (Nat.le_of_ble_eq_true rfl)) dX7_leave_12 ⟨Nat.le_of_ble_eq_true rfl, Nat.le_of_ble_eq_true rfl⟩) hC (fun H locs hC => ?_)
  refine lv_if_ne (tgt := 39) hx hb dX7_leave_15 (by decide) (fun h19 => ?_) (fun h19 => ?_)
  · have hf := zif_f hf h19
    refine lv_iconst (v := 0) hx hb dX7_leave_39 (by decide) ?_
    exact z_iretM hx hb hr hlocks hC hf dX7_leave_40
  · have hf := zif_t hf h19
    refine lv_aload_n hx hb dX7_leave_18 rfl (lv_at hl 0 rfl) ?_
    refine lv_aload_n hx hb dX7_leave_19 rfl (lv_at hl 0 rfl) ?_
    refine zg_7_37 hx hb hts hi7 hown hK hC hk_th w1 dX7_leave_20 ?_
    refine lv_iconst (v := 2) hx hb dX7_leave_23 (by decide) ?_
    refine lv_icmp_ge (tgt := 31) hx hb dX7_leave_24 (by decide) (fun h18 => ?_) (fun h18 => ?_)
    · have hf := zif_t hf h18
      refine lv_iconst (v := 0) hx hb dX7_leave_31 (by decide) ?_
      exact J32 _ _ _ _ th 0 hk_th hC (lv_sub hl [0, 1] rfl) hf
    · have hf := zif_f hf h18
      refine lv_iconst (v := 1) hx hb dX7_leave_27 (by decide) ?_
      refine lv_goto (tgt := 32) hx hb dX7_leave_28 (by decide) ?_
      exact J32 _ _ _ _ th 1 hk_th hC (lv_sub hl [0, 1] rfl) hf
def f_X7_hour_45 (K : Nat → Nat) (z : Nat) (th : Nat) (p1 : Int32) (rA : zS) (s0 : Nat) (s1 : Int32) : Option zS :=
  zb2 (f_X7_throwsIf K z rA s0 s1 2) fun x6 r7 => (if x6 = 0 then zlet (zui r7 39 th 0 p1) fun r8 => some r8 else some r7)
def f_X7_hour_25 (K : Nat → Nat) (z : Nat) (th : Nat) (p1 : Int32) (rA : zS) (s0 : Nat) (s1 : Int32) : Option zS :=
  zb2 (f_X7_throwsIf K z rA s0 s1 1) fun x3 r4 => (if x3 = 0 then (if (zi r4 37 th 0) = 0 then f_X7_hour_45 K z th p1 r4 th 1 else f_X7_hour_45 K z th p1 r4 th 0) else some r4)
def f_X7_hour_20 (K : Nat → Nat) (z : Nat) (th : Nat) (p1 : Int32) (rA : zS) (s0 : Nat) : Option zS :=
  f_X7_hour_25 K z th p1 rA s0 1
def f_X7_hour (K : Nat → Nat) (z : Nat) (r : zS) (th : Nat) (p1 : Int32) : Option zS :=
  zlet (zui r 0 th 0 0) fun r1 => (if p1 < (zi r1 39 th 0) then f_X7_hour_20 K z th p1 r1 th else (if p1 ≤ 12 then f_X7_hour_25 K z th p1 r1 th 0 else f_X7_hour_20 K z th p1 r1 th))
set_option maxRecDepth 100000 in
set_option maxHeartbeats 4000000 in
theorem c_X7_hour {l : Launch} {D : va_G} {cy : Nat → ClassId} {base : Nat} {st : Nat → Nat} {K : Nat → Nat} {L : List Nat} {c r : zS} {o : Int64} {z : Nat} (th : Nat) (p1 : Int32) {rf : zS}  (hk_th : K th = 7) (hf : f_X7_hour K z r th p1 = some rf) : Met l yX7_hour wsX7_hour ({ frames := 1, cells := 0, slots := 0, locals := 22 }) (va_Pc [.ref th, .int p1] (zGW zts0 zns0 D cy base st K L (c, r, o))) (va_Qv (fun (_ : Unit) => True) (fun _ => zB D cy base K L (c, rf, o)) (zA base)) 0 0 (zA base) := by
  refine Met.ofW (cc := cX7_hour) (maxL := 2) (ret := none) (by decide) rfl ?_
  intro p e s m args below meth cd s₁ B hml hv
  obtain ⟨rfl, hG⟩ := hv
  have hx := B.exec
  have hb := B.bytes
  have hr := B.returns
  have hts := atoms_spec (ws := wsX7_hour) B.pre
  have hown : s.vm.findClass RX7 = some m.cls := findClass_of_methodNamed B.named
  have hlocks := B.notSynchronized
  have hC := hG.enter
  have hK := hG.2.2.2.1
  have hi7 : ∀ w ∈ wsX70, w ∈ wsX7_hour := by decide +kernel
  have w0 := hts (.fieldLink RX7 127 "MarketSquareModel" "thrown" "I") (by decide +kernel)
  have w1 := hts (.fieldLink RX7 220 "MarketSquareModel" "hour" "I") (by decide +kernel)
  have w2 := hts (.fieldLink RX7 214 "MarketSquareModel" "time" "I") (by decide +kernel)
  have hl := lv_entry ([.ref th, .int p1]) (n := 2) (Nat.le_of_ble_eq_true rfl)
  rw [lg_entry_eq]
  generalize (lg_sl ([.ref th, .int p1]) ++ List.replicate (2 - (lg_sl ([.ref th, .int p1])).length) Slot.unset).toArray = ls at hl ⊢
  have hl : lv_has ls 2 [(0, .ref th), (1, .int p1)] := hl
  have J45 : ∀ (rA : zS) (H : Heap) (locs : List Loc) (ls : Array Slot) (s0 : Nat) (s1 : Int32), K s0 = 7 → zC D cy base K L (c, rA, o) s.heap H locs → lv_has ls 2 [(0, .ref th), (1, .int p1)] → f_X7_hour_45 K z th p1 rA s0 s1 = some rf → W p l e (headSpec wsX7_hour ({ frames := 1, cells := 0, slots := 0, locals := 22 })).room s m ([.ref th, .int p1] : List Value).toArray below meth cd H locs 0 0 (MQ below (va_Qv (fun (_ : Unit) => True) (fun _ => zB D cy base K L (c, rf, o)) (zA base)) ([.ref th, .int p1] : List Value).toArray s 0 0 (zA base)) (F0 m 45 ls [.int s1, .ref s0]) := by
    intro rA H locs ls s0 s1 hk_s0 hC hl hf
    unfold f_X7_hour_45 at hf
    refine lv_iconst (v := 2) hx hb dX7_hour_45 (by decide) ?_
    obtain ⟨x6, r7, hc5, hf⟩ := zb2_inv hf
    refine z_ci (z_rV (As := [.int s1, .int 2]) (rest := []) ⟨hx, hb, hml, hown, hts⟩ (c_X7_throwsIf (l := l) (D := D) (cy := cy) (base := base) (st := st) (K := K) (L := L) (c := c) (r := rA) (o := o) (z := z) s0 s1 2 hk_s0 hc5) (cwV 2 hts gX7_hour_X7_throwsIf rfl rfl rfl (by decide +kernel) ⟨Nat.le_of_ble_eq_true rfl, Nat.le_of_ble_eq_true rfl⟩) hG hC (zC.recv (ci := 7) (fs := _) hK hC (by rw [hk_s0]; decide) (by rw [hk_s0]; exact zc_7 cy _ _) rfl) rfl hl.1 rfl (lv_room (Nat.le_of_ble_eq_true rfl)) dX7_hour_46 ⟨Nat.le_of_ble_eq_true rfl, Nat.le_of_ble_eq_true rfl⟩) hC (fun H locs hC => ?_)
    refine lv_if_eq (tgt := 53) hx hb dX7_hour_49 (by decide) (fun h9 => ?_) (fun h9 => ?_)
    · have hf := zif_t hf h9
      refine lv_aload_n hx hb dX7_hour_53 rfl (lv_at hl 0 rfl) ?_
      refine lv_iload_n hx hb dX7_hour_54 rfl (lv_at hl 1 rfl) ?_
      obtain ⟨r8, er8, hf⟩ := zlet_inv hf
      refine zp_7_39 hx hb hts hi7 hown hK hC hk_th w1 er8 dX7_hour_55 (fun H locs hC => ?_)
      exact z_vretM hx hb hr hlocks hC hf dX7_hour_58
    · have hf := zif_f hf h9
      exact z_vretM hx hb hr hlocks hC hf dX7_hour_52
  have J25 : ∀ (rA : zS) (H : Heap) (locs : List Loc) (ls : Array Slot) (s0 : Nat) (s1 : Int32), K s0 = 7 → zC D cy base K L (c, rA, o) s.heap H locs → lv_has ls 2 [(0, .ref th), (1, .int p1)] → f_X7_hour_25 K z th p1 rA s0 s1 = some rf → W p l e (headSpec wsX7_hour ({ frames := 1, cells := 0, slots := 0, locals := 22 })).room s m ([.ref th, .int p1] : List Value).toArray below meth cd H locs 0 0 (MQ below (va_Qv (fun (_ : Unit) => True) (fun _ => zB D cy base K L (c, rf, o)) (zA base)) ([.ref th, .int p1] : List Value).toArray s 0 0 (zA base)) (F0 m 25 ls [.int s1, .ref s0]) := by
    intro rA H locs ls s0 s1 hk_s0 hC hl hf
    unfold f_X7_hour_25 at hf
    refine lv_iconst (v := 1) hx hb dX7_hour_25 (by decide) ?_
    obtain ⟨x3, r4, hc2, hf⟩ := zb2_inv hf
    refine z_ci (z_rV (As := [.int s1, .int 1]) (rest := []) ⟨hx, hb, hml, hown, hts⟩ (c_X7_throwsIf (l := l) (D := D) (cy := cy) (base := base) (st := st) (K := K) (L := L) (c := c) (r := rA) (o := o) (z := z) s0 s1 1 hk_s0 hc2) (cwV 2 hts gX7_hour_X7_throwsIf rfl rfl rfl (by decide +kernel) ⟨Nat.le_of_ble_eq_true rfl, Nat.le_of_ble_eq_true rfl⟩) hG hC (zC.recv (ci := 7) (fs := _) hK hC (by rw [hk_s0]; decide) (by rw [hk_s0]; exact zc_7 cy _ _) rfl) rfl hl.1 rfl (lv_room (Nat.le_of_ble_eq_true rfl)) dX7_hour_26 ⟨Nat.le_of_ble_eq_true rfl, Nat.le_of_ble_eq_true rfl⟩) hC (fun H locs hC => ?_)
    refine lv_if_ne (tgt := 52) hx hb dX7_hour_29 (by decide) (fun h11 => ?_) (fun h11 => ?_)
    · have hf := zif_f hf h11
      exact z_vretM hx hb hr hlocks hC hf dX7_hour_52
    · have hf := zif_t hf h11
      refine lv_aload_n hx hb dX7_hour_32 rfl (lv_at hl 0 rfl) ?_
      refine lv_aload_n hx hb dX7_hour_33 rfl (lv_at hl 0 rfl) ?_
      refine zg_7_37 hx hb hts hi7 hown hK hC hk_th w2 dX7_hour_34 ?_
      refine lv_if_ne (tgt := 44) hx hb dX7_hour_37 (by decide) (fun h10 => ?_) (fun h10 => ?_)
      · have hf := zif_f hf h10
        refine lv_iconst (v := 0) hx hb dX7_hour_44 (by decide) ?_
        exact J45 _ _ _ _ th 0 hk_th hC (lv_sub hl [0, 1] rfl) hf
      · have hf := zif_t hf h10
        refine lv_iconst (v := 1) hx hb dX7_hour_40 (by decide) ?_
        refine lv_goto (tgt := 45) hx hb dX7_hour_41 (by decide) ?_
        exact J45 _ _ _ _ th 1 hk_th hC (lv_sub hl [0, 1] rfl) hf
  have J20 : ∀ (rA : zS) (H : Heap) (locs : List Loc) (ls : Array Slot) (s0 : Nat), K s0 = 7 → zC D cy base K L (c, rA, o) s.heap H locs → lv_has ls 2 [(0, .ref th), (1, .int p1)] → f_X7_hour_20 K z th p1 rA s0 = some rf → W p l e (headSpec wsX7_hour ({ frames := 1, cells := 0, slots := 0, locals := 22 })).room s m ([.ref th, .int p1] : List Value).toArray below meth cd H locs 0 0 (MQ below (va_Qv (fun (_ : Unit) => True) (fun _ => zB D cy base K L (c, rf, o)) (zA base)) ([.ref th, .int p1] : List Value).toArray s 0 0 (zA base)) (F0 m 20 ls [.ref s0]) := by
    intro rA H locs ls s0 hk_s0 hC hl hf
    unfold f_X7_hour_20 at hf
    refine lv_iconst (v := 1) hx hb dX7_hour_20 (by decide) ?_
    refine lv_goto (tgt := 25) hx hb dX7_hour_21 (by decide) ?_
    exact J25 _ _ _ _ s0 1 hk_s0 hC (lv_sub hl [0, 1] rfl) hf
  unfold f_X7_hour at hf
  refine lv_aload_n hx hb dX7_hour_0 rfl (lv_at hl 0 rfl) ?_
  refine lv_iconst (v := 0) hx hb dX7_hour_1 (by decide) ?_
  obtain ⟨r1, er1, hf⟩ := zlet_inv hf
  refine zp_7_0 hx hb hts hi7 hown hK hC hk_th w0 er1 dX7_hour_2 (fun H locs hC => ?_)
  refine lv_aload_n hx hb dX7_hour_5 rfl (lv_at hl 0 rfl) ?_
  refine lv_iload_n hx hb dX7_hour_6 rfl (lv_at hl 1 rfl) ?_
  refine lv_aload_n hx hb dX7_hour_7 rfl (lv_at hl 0 rfl) ?_
  refine zg_7_39 hx hb hts hi7 hown hK hC hk_th w1 dX7_hour_8 ?_
  refine lv_icmp_lt (tgt := 20) hx hb dX7_hour_11 (by decide) (fun h13 => ?_) (fun h13 => ?_)
  · have hf := zif_t hf h13
    exact J20 _ _ _ _ th hk_th hC (lv_sub hl [0, 1] rfl) hf
  · have hf := zif_f hf h13
    refine lv_iload_n hx hb dX7_hour_14 rfl (lv_at hl 1 rfl) ?_
    refine lv_bipush (v := 12) hx hb dX7_hour_15 (by decide) ?_
    refine lv_icmp_le (tgt := 24) hx hb dX7_hour_17 (by decide) (fun h12 => ?_) (fun h12 => ?_)
    · have hf := zif_t hf h12
      refine lv_iconst (v := 0) hx hb dX7_hour_24 (by decide) ?_
      exact J25 _ _ _ _ th 0 hk_th hC (lv_sub hl [0, 1] rfl) hf
    · have hf := zif_f hf h12
      exact J20 _ _ _ _ th hk_th hC (lv_sub hl [0, 1] rfl) hf
def f_X7_couldStand (K : Nat → Nat) (z : Nat) (r : zS) (th : Nat) (p1 : Int32) : Option Int32 :=
  zn K (zr r 13 th 0) 113 fun a1 => zx p1 200 <| zb (f_X7_isRow K z r th (zi r 113 a1 (Int32.toNatClampNeg p1))) fun x3 => (if x3 = 0 then some 0 else zb (f_X7_isOutOfMonth K z r th p1) fun x5 => (if x5 = 0 then some 1 else some 0))
set_option maxRecDepth 100000 in
set_option maxHeartbeats 4000000 in
theorem c_X7_couldStand {l : Launch} {D : va_G} {cy : Nat → ClassId} {base : Nat} {st : Nat → Nat} {K : Nat → Nat} {L : List Nat} {c r : zS} {o : Int64} {z : Nat} (th : Nat) (p1 : Int32) {rv : Int32}  (hk_th : K th = 7) (hf : f_X7_couldStand K z r th p1 = some rv) : Met l yX7_couldStand wsX7_couldStand ({ frames := 2, cells := 0, slots := 0, locals := 41 }) (va_Pc [.ref th, .int p1] (zGW zts0 zns0 D cy base st K L (c, r, o))) (va_Qi (fun (rr : Int32) (_ : Unit) => rr = rv) (fun _ => zB D cy base K L (c, r, o)) (zA base)) 0 0 (zA base) := by
  refine Met.ofW (cc := cX7_couldStand) (maxL := 2) (ret := (some .boolean)) (by decide) rfl ?_
  intro p e s m args below meth cd s₁ B hml hv
  obtain ⟨rfl, hG⟩ := hv
  have hx := B.exec
  have hb := B.bytes
  have hr := B.returns
  have hts := atoms_spec (ws := wsX7_couldStand) B.pre
  have hown : s.vm.findClass RX7 = some m.cls := findClass_of_methodNamed B.named
  have hlocks := B.notSynchronized
  have hC := hG.enter
  have hK := hG.2.2.2.1
  have hi7 : ∀ w ∈ wsX70, w ∈ wsX7_couldStand := by decide +kernel
  have w0 := hts (.fieldLink RX7 45 "MarketSquareModel" "pitchRow" "[I") (by decide +kernel)
  have hl := lv_entry ([.ref th, .int p1]) (n := 2) (Nat.le_of_ble_eq_true rfl)
  rw [lg_entry_eq]
  generalize (lg_sl ([.ref th, .int p1]) ++ List.replicate (2 - (lg_sl ([.ref th, .int p1])).length) Slot.unset).toArray = ls at hl ⊢
  have hl : lv_has ls 2 [(0, .ref th), (1, .int p1)] := hl
  unfold f_X7_couldStand at hf
  refine lv_aload_n hx hb dX7_couldStand_0 rfl (lv_at hl 0 rfl) ?_
  refine lv_aload_n hx hb dX7_couldStand_1 rfl (lv_at hl 0 rfl) ?_
  refine zg_7_13 hx hb hts hi7 hown hK hC hk_th w0 dX7_couldStand_2 ?_
  obtain ⟨a1, ea1, hk_a1, hf⟩ := zn_inv hf
  refine z_ref ea1 ?_
  refine lv_iload_n hx hb dX7_couldStand_5 rfl (lv_at hl 1 rfl) ?_
  obtain ⟨hix, hf⟩ := zx_inv hf
  refine xg_113 hx hb hK hC hk_a1 hix dX7_couldStand_6 ?_
  obtain ⟨x3, hc2, hf⟩ := zb_inv hf
  refine z_ci (z_rV (As := [.int (zi r 113 a1 (Int32.toNatClampNeg p1))]) (rest := []) ⟨hx, hb, hml, hown, hts⟩ (c_X7_isRow (l := l) (D := D) (cy := cy) (base := base) (st := st) (K := K) (L := L) (c := c) (r := r) (o := o) (z := z) th (zi r 113 a1 (Int32.toNatClampNeg p1)) hk_th hc2) (cwV 1 hts gX7_couldStand_X7_isRow rfl rfl rfl (by decide +kernel) ⟨Nat.le_of_ble_eq_true rfl, Nat.le_of_ble_eq_true rfl⟩) hG hC (zC.recv (ci := 7) (fs := _) hK hC (by rw [hk_th]; decide) (by rw [hk_th]; exact zc_7 cy _ _) rfl) rfl hl.1 rfl (lv_room (Nat.le_of_ble_eq_true rfl)) dX7_couldStand_7 ⟨Nat.le_of_ble_eq_true rfl, Nat.le_of_ble_eq_true rfl⟩) hC (fun H locs hC => ?_)
  refine lv_if_eq (tgt := 25) hx hb dX7_couldStand_10 (by decide) (fun h7 => ?_) (fun h7 => ?_)
  · have hf := zif_t hf h7
    refine lv_iconst (v := 0) hx hb dX7_couldStand_25 (by decide) ?_
    exact z_zret hx hb hr hlocks hC (Or.inl rfl) hf dX7_couldStand_26
  · have hf := zif_f hf h7
    refine lv_aload_n hx hb dX7_couldStand_13 rfl (lv_at hl 0 rfl) ?_
    refine lv_iload_n hx hb dX7_couldStand_14 rfl (lv_at hl 1 rfl) ?_
    obtain ⟨x5, hc4, hf⟩ := zb_inv hf
    refine z_ci (z_rV (As := [.int p1]) (rest := []) ⟨hx, hb, hml, hown, hts⟩ (c_X7_isOutOfMonth (l := l) (D := D) (cy := cy) (base := base) (st := st) (K := K) (L := L) (c := c) (r := r) (o := o) (z := z) th p1 hk_th hc4) (cwV 1 hts gX7_couldStand_X7_isOutOfMonth rfl rfl rfl (by decide +kernel) ⟨Nat.le_of_ble_eq_true rfl, Nat.le_of_ble_eq_true rfl⟩) hG hC (zC.recv (ci := 7) (fs := _) hK hC (by rw [hk_th]; decide) (by rw [hk_th]; exact zc_7 cy _ _) rfl) rfl hl.1 rfl (lv_room (Nat.le_of_ble_eq_true rfl)) dX7_couldStand_15 ⟨Nat.le_of_ble_eq_true rfl, Nat.le_of_ble_eq_true rfl⟩) hC (fun H locs hC => ?_)
    refine lv_if_ne (tgt := 25) hx hb dX7_couldStand_18 (by decide) (fun h6 => ?_) (fun h6 => ?_)
    · have hf := zif_f hf h6
      refine lv_iconst (v := 0) hx hb dX7_couldStand_25 (by decide) ?_
      exact z_zret hx hb hr hlocks hC (Or.inl rfl) hf dX7_couldStand_26
    · have hf := zif_t hf h6
      refine lv_iconst (v := 1) hx hb dX7_couldStand_21 (by decide) ?_
      refine lv_goto (tgt := 26) hx hb dX7_couldStand_22 (by decide) ?_
      exact z_zret hx hb hr hlocks hC (Or.inr rfl) hf dX7_couldStand_26
def f_X7_heir_4 (K : Nat → Nat) (z : Nat) (r : zS) (th : Nat) (p1 : Int32) : Nat → Int32 → Int32 → Option Int32
  | 0, _, _ => none
  | n + 1, v2, v3 =>
    (if (zi r 35 th 0) ≤ v3 then some v2 else zn K (zr r 8 th 0) 108 fun a1 => zx v3 200 <| (if (zi r 108 a1 (Int32.toNatClampNeg v3)) = 1 then zn K (zr r 20 th 0) 120 fun a3 => zx v3 200 <| (if (zi r 120 a3 (Int32.toNatClampNeg v3)) = 0 then zlet (v3 + 1) fun x4 => f_X7_heir_4 K z r th p1 n v2 x4 else zn K (zr r 12 th 0) 112 fun a5 => zx v3 200 <| (if (zi r 112 a5 (Int32.toNatClampNeg v3)) = 0 then zn K (zr r 10 th 0) 110 fun a7 => zx v3 200 <| zx p1 200 <| (if (zi r 110 a7 (Int32.toNatClampNeg v3)) ≤ (zi r 110 a7 (Int32.toNatClampNeg p1)) then (if v2 < 0 then zlet (v3 + 1) fun x8 => f_X7_heir_4 K z r th p1 n v3 x8 else zb (f_X7_isAhead K z r th v3 v2) fun x10 => (if x10 = 0 then zlet (v3 + 1) fun x11 => f_X7_heir_4 K z r th p1 n v2 x11 else zlet (v3 + 1) fun x12 => f_X7_heir_4 K z r th p1 n v3 x12)) else zlet (v3 + 1) fun x15 => f_X7_heir_4 K z r th p1 n v2 x15) else zlet (v3 + 1) fun x6 => f_X7_heir_4 K z r th p1 n v2 x6)) else zlet (v3 + 1) fun x2 => f_X7_heir_4 K z r th p1 n v2 x2))
def f_X7_heir (K : Nat → Nat) (z : Nat) (r : zS) (th : Nat) (p1 : Int32) : Option Int32 :=
  f_X7_heir_4 K z r th p1 z (-1) 0
set_option maxRecDepth 100000 in
set_option maxHeartbeats 4000000 in
theorem c_X7_heir {l : Launch} {D : va_G} {cy : Nat → ClassId} {base : Nat} {st : Nat → Nat} {K : Nat → Nat} {L : List Nat} {c r : zS} {o : Int64} {z : Nat} (th : Nat) (p1 : Int32) {rv : Int32}  (hk_th : K th = 7) (hf : f_X7_heir K z r th p1 = some rv) : Met l yX7_heir wsX7_heir ({ frames := 2, cells := 0, slots := 0, locals := 47 }) (va_Pc [.ref th, .int p1] (zGW zts0 zns0 D cy base st K L (c, r, o))) (va_Qi (fun (rr : Int32) (_ : Unit) => rr = rv) (fun _ => zB D cy base K L (c, r, o)) (zA base)) 0 0 (zA base) := by
  refine Met.ofW (cc := cX7_heir) (maxL := 4) (ret := (some .int)) (by decide) rfl ?_
  intro p e s m args below meth cd s₁ B hml hv
  obtain ⟨rfl, hG⟩ := hv
  have hx := B.exec
  have hb := B.bytes
  have hr := B.returns
  have hts := atoms_spec (ws := wsX7_heir) B.pre
  have hown : s.vm.findClass RX7 = some m.cls := findClass_of_methodNamed B.named
  have hlocks := B.notSynchronized
  have hC := hG.enter
  have hK := hG.2.2.2.1
  have hi7 : ∀ w ∈ wsX70, w ∈ wsX7_heir := by decide +kernel
  have w0 := hts (.fieldLink RX7 131 "MarketSquareModel" "traders" "I") (by decide +kernel)
  have w1 := hts (.fieldLink RX7 30 "MarketSquareModel" "kind" "[I") (by decide +kernel)
  have w2 := hts (.fieldLink RX7 66 "MarketSquareModel" "wants" "[Z") (by decide +kernel)
  have w3 := hts (.fieldLink RX7 42 "MarketSquareModel" "hasPitch" "[Z") (by decide +kernel)
  have w4 := hts (.fieldLink RX7 36 "MarketSquareModel" "front" "[I") (by decide +kernel)
  have hl := lv_entry ([.ref th, .int p1]) (n := 4) (Nat.le_of_ble_eq_true rfl)
  rw [lg_entry_eq]
  generalize (lg_sl ([.ref th, .int p1]) ++ List.replicate (4 - (lg_sl ([.ref th, .int p1])).length) Slot.unset).toArray = ls at hl ⊢
  have hl : lv_has ls 4 [(0, .ref th), (1, .int p1)] := hl
  have L4 : ∀ (n4 : Nat) (H : Heap) (locs : List Loc) (ls : Array Slot) (v2 : Int32) (v3 : Int32), zC D cy base K L (c, r, o) s.heap H locs → lv_has ls 4 [(0, .ref th), (1, .int p1), (2, .int v2), (3, .int v3)] → f_X7_heir_4 K z r th p1 n4 v2 v3 = some rv → W p l e (headSpec wsX7_heir ({ frames := 2, cells := 0, slots := 0, locals := 47 })).room s m ([.ref th, .int p1] : List Value).toArray below meth cd H locs 0 0 (MQ below (va_Qi (fun (rr : Int32) (_ : Unit) => rr = rv) (fun _ => zB D cy base K L (c, r, o)) (zA base)) ([.ref th, .int p1] : List Value).toArray s 0 0 (zA base)) (F0 m 4 ls []) := by
    intro n4
    induction n4 with
    | zero => intro H locs ls v2 v3 hC hl hf; rw [f_X7_heir_4] at hf; cases hf
    | succ n4 ih4 =>
      intro H locs ls v2 v3 hC hl hf
      rw [f_X7_heir_4] at hf
      refine lv_iload_n hx hb dX7_heir_4 rfl (lv_at hl 3 rfl) ?_
      refine lv_aload_n hx hb dX7_heir_5 rfl (lv_at hl 0 rfl) ?_
      refine zg_7_35 hx hb hts hi7 hown hK hC hk_th w0 dX7_heir_6 ?_
      refine lv_icmp_ge (tgt := 79) hx hb dX7_heir_9 (by decide) (fun h20 => ?_) (fun h20 => ?_)
      · have hf := zif_t hf h20
        refine lv_iload_n hx hb dX7_heir_79 rfl (lv_at hl 2 rfl) ?_
        exact z_iret hx hb hr hlocks hC hf dX7_heir_80
      · have hf := zif_f hf h20
        refine lv_aload_n hx hb dX7_heir_12 rfl (lv_at hl 0 rfl) ?_
        refine zg_7_8 hx hb hts hi7 hown hK hC hk_th w1 dX7_heir_13 ?_
        obtain ⟨a1, ea1, hk_a1, hf⟩ := zn_inv hf
        refine z_ref ea1 ?_
        refine lv_iload_n hx hb dX7_heir_16 rfl (lv_at hl 3 rfl) ?_
        obtain ⟨hix, hf⟩ := zx_inv hf
        refine xg_108 hx hb hK hC hk_a1 hix dX7_heir_17 ?_
        refine lv_iconst (v := 1) hx hb dX7_heir_18 (by decide) ?_
        refine lv_icmp_ne (tgt := 73) hx hb dX7_heir_19 (by decide) (fun h19 => ?_) (fun h19 => ?_)
        · have hf := zif_f hf h19
          obtain ⟨x2, ex2, hf⟩ := zlet_inv hf
          refine lv_iinc (v := x2) (lv' := [(3, .int x2), (0, .ref th), (1, .int p1), (2, .int v2)]) hx hb dX7_heir_73 hl (k := 3) rfl (by rw [ex2]; rfl) (by decide) rfl (fun ls hl => ?_)
          refine lv_goto (tgt := 4) hx hb dX7_heir_76 (by decide) ?_
          exact ih4 _ _ _ v2 x2 hC (lv_sub hl [1, 2, 3, 0] rfl) hf
        · have hf := zif_t hf h19
          refine lv_aload_n hx hb dX7_heir_22 rfl (lv_at hl 0 rfl) ?_
          refine zg_7_20 hx hb hts hi7 hown hK hC hk_th w2 dX7_heir_23 ?_
          obtain ⟨a3, ea3, hk_a3, hf⟩ := zn_inv hf
          refine z_ref ea3 ?_
          refine lv_iload_n hx hb dX7_heir_26 rfl (lv_at hl 3 rfl) ?_
          obtain ⟨hix, hf⟩ := zx_inv hf
          refine xg_120 hx hb hK hC hk_a3 hix dX7_heir_27 ?_
          refine lv_if_eq (tgt := 73) hx hb dX7_heir_28 (by decide) (fun h18 => ?_) (fun h18 => ?_)
          · have hf := zif_t hf h18
            obtain ⟨x4, ex4, hf⟩ := zlet_inv hf
            refine lv_iinc (v := x4) (lv' := [(3, .int x4), (0, .ref th), (1, .int p1), (2, .int v2)]) hx hb dX7_heir_73 hl (k := 3) rfl (by rw [ex4]; rfl) (by decide) rfl (fun ls hl => ?_)
            refine lv_goto (tgt := 4) hx hb dX7_heir_76 (by decide) ?_
            exact ih4 _ _ _ v2 x4 hC (lv_sub hl [1, 2, 3, 0] rfl) hf
          · have hf := zif_f hf h18
            refine lv_aload_n hx hb dX7_heir_31 rfl (lv_at hl 0 rfl) ?_
            refine zg_7_12 hx hb hts hi7 hown hK hC hk_th w3 dX7_heir_32 ?_
            obtain ⟨a5, ea5, hk_a5, hf⟩ := zn_inv hf
            refine z_ref ea5 ?_
            refine lv_iload_n hx hb dX7_heir_35 rfl (lv_at hl 3 rfl) ?_
            obtain ⟨hix, hf⟩ := zx_inv hf
            refine xg_112 hx hb hK hC hk_a5 hix dX7_heir_36 ?_
            refine lv_if_ne (tgt := 73) hx hb dX7_heir_37 (by decide) (fun h17 => ?_) (fun h17 => ?_)
            · have hf := zif_f hf h17
              obtain ⟨x6, ex6, hf⟩ := zlet_inv hf
              refine lv_iinc (v := x6) (lv' := [(3, .int x6), (0, .ref th), (1, .int p1), (2, .int v2)]) hx hb dX7_heir_73 hl (k := 3) rfl (by rw [ex6]; rfl) (by decide) rfl (fun ls hl => ?_)
              refine lv_goto (tgt := 4) hx hb dX7_heir_76 (by decide) ?_
              exact ih4 _ _ _ v2 x6 hC (lv_sub hl [1, 2, 3, 0] rfl) hf
            · have hf := zif_t hf h17
              refine lv_aload_n hx hb dX7_heir_40 rfl (lv_at hl 0 rfl) ?_
              refine zg_7_10 hx hb hts hi7 hown hK hC hk_th w4 dX7_heir_41 ?_
              obtain ⟨a7, ea7, hk_a7, hf⟩ := zn_inv hf
              refine z_ref ea7 ?_
              refine lv_iload_n hx hb dX7_heir_44 rfl (lv_at hl 3 rfl) ?_
              obtain ⟨hix, hf⟩ := zx_inv hf
              refine xg_110 hx hb hK hC hk_a7 hix dX7_heir_45 ?_
              refine lv_aload_n hx hb dX7_heir_46 rfl (lv_at hl 0 rfl) ?_
              refine zg_7_10 hx hb hts hi7 hown hK hC hk_th w4 dX7_heir_47 ?_
              refine z_ref ea7 ?_
              refine lv_iload_n hx hb dX7_heir_50 rfl (lv_at hl 1 rfl) ?_
              obtain ⟨hix, hf⟩ := zx_inv hf
              refine xg_110 hx hb hK hC hk_a7 hix dX7_heir_51 ?_
              refine lv_icmp_le (tgt := 58) hx hb dX7_heir_52 (by decide) (fun h16 => ?_) (fun h16 => ?_)
              · have hf := zif_t hf h16
                refine lv_iload_n hx hb dX7_heir_58 rfl (lv_at hl 2 rfl) ?_
                refine lv_if_lt (tgt := 71) hx hb dX7_heir_59 (by decide) (fun h14 => ?_) (fun h14 => ?_)
                · have hf := zif_t hf h14
                  refine lv_iload_n hx hb dX7_heir_71 rfl (lv_at hl 3 rfl) ?_
                  refine lv_istore_n (lv' := [(2, .int v3), (0, .ref th), (1, .int p1), (3, .int v3)]) hx hb dX7_heir_72 rfl hl (by decide) rfl (fun ls hl => ?_)
                  obtain ⟨x8, ex8, hf⟩ := zlet_inv hf
                  refine lv_iinc (v := x8) (lv' := [(3, .int x8), (2, .int v3), (0, .ref th), (1, .int p1)]) hx hb dX7_heir_73 hl (k := 3) rfl (by rw [ex8]; rfl) (by decide) rfl (fun ls hl => ?_)
                  refine lv_goto (tgt := 4) hx hb dX7_heir_76 (by decide) ?_
                  exact ih4 _ _ _ v3 x8 hC (lv_sub hl [2, 3, 1, 0] rfl) hf
                · have hf := zif_f hf h14
                  refine lv_aload_n hx hb dX7_heir_62 rfl (lv_at hl 0 rfl) ?_
                  refine lv_iload_n hx hb dX7_heir_63 rfl (lv_at hl 3 rfl) ?_
                  refine lv_iload_n hx hb dX7_heir_64 rfl (lv_at hl 2 rfl) ?_
                  obtain ⟨x10, hc9, hf⟩ := zb_inv hf
                  refine z_ci (z_rV (As := [.int v3, .int v2]) (rest := []) ⟨hx, hb, hml, hown, hts⟩ (c_X7_isAhead (l := l) (D := D) (cy := cy) (base := base) (st := st) (K := K) (L := L) (c := c) (r := r) (o := o) (z := z) th v3 v2 hk_th hc9) (cwV 2 hts gX7_heir_X7_isAhead rfl rfl rfl (by decide +kernel) ⟨Nat.le_of_ble_eq_true rfl, Nat.le_of_ble_eq_true rfl⟩) hG hC (zC.recv (ci := 7) (fs := _) hK hC (by rw [hk_th]; decide) (by rw [hk_th]; exact zc_7 cy _ _) rfl) rfl hl.1 rfl (lv_room (Nat.le_of_ble_eq_true rfl)) dX7_heir_65 ⟨Nat.le_of_ble_eq_true rfl, Nat.le_of_ble_eq_true rfl⟩) hC (fun H locs hC => ?_)
                  refine lv_if_eq (tgt := 73) hx hb dX7_heir_68 (by decide) (fun h13 => ?_) (fun h13 => ?_)
                  · have hf := zif_t hf h13
                    obtain ⟨x11, ex11, hf⟩ := zlet_inv hf
                    refine lv_iinc (v := x11) (lv' := [(3, .int x11), (0, .ref th), (1, .int p1), (2, .int v2)]) hx hb dX7_heir_73 hl (k := 3) rfl (by rw [ex11]; rfl) (by decide) rfl (fun ls hl => ?_)
                    refine lv_goto (tgt := 4) hx hb dX7_heir_76 (by decide) ?_
                    exact ih4 _ _ _ v2 x11 hC (lv_sub hl [1, 2, 3, 0] rfl) hf
                  · have hf := zif_f hf h13
                    refine lv_iload_n hx hb dX7_heir_71 rfl (lv_at hl 3 rfl) ?_
                    refine lv_istore_n (lv' := [(2, .int v3), (0, .ref th), (1, .int p1), (3, .int v3)]) hx hb dX7_heir_72 rfl hl (by decide) rfl (fun ls hl => ?_)
                    obtain ⟨x12, ex12, hf⟩ := zlet_inv hf
                    refine lv_iinc (v := x12) (lv' := [(3, .int x12), (2, .int v3), (0, .ref th), (1, .int p1)]) hx hb dX7_heir_73 hl (k := 3) rfl (by rw [ex12]; rfl) (by decide) rfl (fun ls hl => ?_)
                    refine lv_goto (tgt := 4) hx hb dX7_heir_76 (by decide) ?_
                    exact ih4 _ _ _ v3 x12 hC (lv_sub hl [2, 3, 1, 0] rfl) hf
              · have hf := zif_f hf h16
                refine lv_goto (tgt := 73) hx hb dX7_heir_55 (by decide) ?_
                obtain ⟨x15, ex15, hf⟩ := zlet_inv hf
                refine lv_iinc (v := x15) (lv' := [(3, .int x15), (0, .ref th), (1, .int p1), (2, .int v2)]) hx hb dX7_heir_73 hl (k := 3) rfl (by rw [ex15]; rfl) (by decide) rfl (fun ls hl => ?_)
                refine lv_goto (tgt := 4) hx hb dX7_heir_76 (by decide) ?_
                exact ih4 _ _ _ v2 x15 hC (lv_sub hl [1, 2, 3, 0] rfl) hf
  unfold f_X7_heir at hf
  refine lv_iconst (v := (-1)) hx hb dX7_heir_0 (by decide) ?_
  refine lv_istore_n (lv' := [(2, .int (-1)), (0, .ref th), (1, .int p1)]) hx hb dX7_heir_1 rfl hl (by decide) rfl (fun ls hl => ?_)
  refine lv_iconst (v := 0) hx hb dX7_heir_2 (by decide) ?_
  refine lv_istore_n (lv' := [(3, .int 0), (2, .int (-1)), (0, .ref th), (1, .int p1)]) hx hb dX7_heir_3 rfl hl (by decide) rfl (fun ls hl => ?_)
  exact L4 z _ _ _ (-1) 0 hC (lv_sub hl [2, 3, 1, 0] rfl) hf
def f_X7_loses (K : Nat → Nat) (z : Nat) (r : zS) (th : Nat) (p1 : Int32) : Option zS :=
  zn K (zr r 12 th 0) 112 fun a1 => zx p1 200 <| zlet (zui r 112 a1 (Int32.toNatClampNeg p1) 0) fun r2 => zn K (zr r2 32 th 0) 132 fun a3 => zx p1 200 <| zlet (zui r2 132 a3 (Int32.toNatClampNeg p1) 0) fun r4 => zlet (zui r4 41 th 0 ((zi r4 41 th 0) + 1)) fun r5 => zb (f_X7_heir K z r5 th p1) fun x7 => (if 0 ≤ x7 then zlet (zui r5 42 th 0 ((zi r5 42 th 0) + 1)) fun r8 => zn K (zr r8 8 th 0) 108 fun a9 => zx x7 200 <| zlet (zui r8 108 a9 (Int32.toNatClampNeg x7) 0) fun r10 => zn K (zr r10 12 th 0) 112 fun a11 => zx x7 200 <| zlet (zui r10 112 a11 (Int32.toNatClampNeg x7) 1) fun r12 => zn K (zr r12 13 th 0) 113 fun a13 => zx p1 200 <| zx x7 200 <| zlet (zui r12 113 a13 (Int32.toNatClampNeg x7) (zi r12 113 a13 (Int32.toNatClampNeg p1))) fun r14 => zn K (zr r14 14 th 0) 114 fun a15 => zx p1 200 <| zx x7 200 <| zlet (zui r14 114 a15 (Int32.toNatClampNeg x7) (zi r14 114 a15 (Int32.toNatClampNeg p1))) fun r16 => zn K (zr r16 11 th 0) 111 fun a17 => zx x7 200 <| zlet (zui r16 111 a17 (Int32.toNatClampNeg x7) (zi r16 36 th 0)) fun r18 => zlet (zui r18 36 th 0 ((zi r18 36 th 0) + 1)) fun r19 => some r19 else some r5)
set_option maxRecDepth 100000 in
set_option maxHeartbeats 4000000 in
theorem c_X7_loses {l : Launch} {D : va_G} {cy : Nat → ClassId} {base : Nat} {st : Nat → Nat} {K : Nat → Nat} {L : List Nat} {c r : zS} {o : Int64} {z : Nat} (th : Nat) (p1 : Int32) {rf : zS}  (hk_th : K th = 7) (hf : f_X7_loses K z r th p1 = some rf) : Met l yX7_loses wsX7_loses ({ frames := 3, cells := 0, slots := 0, locals := 70 }) (va_Pc [.ref th, .int p1] (zGW zts0 zns0 D cy base st K L (c, r, o))) (va_Qv (fun (_ : Unit) => True) (fun _ => zB D cy base K L (c, rf, o)) (zA base)) 0 0 (zA base) := by
  refine Met.ofW (cc := cX7_loses) (maxL := 3) (ret := none) (by decide) rfl ?_
  intro p e s m args below meth cd s₁ B hml hv
  obtain ⟨rfl, hG⟩ := hv
  have hx := B.exec
  have hb := B.bytes
  have hr := B.returns
  have hts := atoms_spec (ws := wsX7_loses) B.pre
  have hown : s.vm.findClass RX7 = some m.cls := findClass_of_methodNamed B.named
  have hlocks := B.notSynchronized
  have hC := hG.enter
  have hK := hG.2.2.2.1
  have hi7 : ∀ w ∈ wsX70, w ∈ wsX7_loses := by decide +kernel
  have w0 := hts (.fieldLink RX7 42 "MarketSquareModel" "hasPitch" "[Z") (by decide +kernel)
  have w1 := hts (.fieldLink RX7 102 "MarketSquareModel" "awayBits" "[I") (by decide +kernel)
  have w2 := hts (.fieldLink RX7 261 "MarketSquareModel" "lost" "I") (by decide +kernel)
  have w3 := hts (.fieldLink RX7 267 "MarketSquareModel" "given" "I") (by decide +kernel)
  have w4 := hts (.fieldLink RX7 30 "MarketSquareModel" "kind" "[I") (by decide +kernel)
  have w5 := hts (.fieldLink RX7 45 "MarketSquareModel" "pitchRow" "[I") (by decide +kernel)
  have w6 := hts (.fieldLink RX7 48 "MarketSquareModel" "pitchPlace" "[I") (by decide +kernel)
  have w7 := hts (.fieldLink RX7 39 "MarketSquareModel" "rank" "[I") (by decide +kernel)
  have w8 := hts (.fieldLink RX7 234 "MarketSquareModel" "ranks" "I") (by decide +kernel)
  have hl := lv_entry ([.ref th, .int p1]) (n := 3) (Nat.le_of_ble_eq_true rfl)
  rw [lg_entry_eq]
  generalize (lg_sl ([.ref th, .int p1]) ++ List.replicate (3 - (lg_sl ([.ref th, .int p1])).length) Slot.unset).toArray = ls at hl ⊢
  have hl : lv_has ls 3 [(0, .ref th), (1, .int p1)] := hl
  unfold f_X7_loses at hf
  refine lv_aload_n hx hb dX7_loses_0 rfl (lv_at hl 0 rfl) ?_
  refine zg_7_12 hx hb hts hi7 hown hK hC hk_th w0 dX7_loses_1 ?_
  obtain ⟨a1, ea1, hk_a1, hf⟩ := zn_inv hf
  refine z_ref ea1 ?_
  refine lv_iload_n hx hb dX7_loses_4 rfl (lv_at hl 1 rfl) ?_
  refine lv_iconst (v := 0) hx hb dX7_loses_5 (by decide) ?_
  obtain ⟨hix, hf⟩ := zx_inv hf
  obtain ⟨r2, er2, hf⟩ := zlet_inv hf
  refine xp_112 hx hb hK hC hk_a1 hix (Or.inl rfl) er2 dX7_loses_6 (fun H locs hC => ?_)
  refine lv_aload_n hx hb dX7_loses_7 rfl (lv_at hl 0 rfl) ?_
  refine zg_7_32 hx hb hts hi7 hown hK hC hk_th w1 dX7_loses_8 ?_
  obtain ⟨a3, ea3, hk_a3, hf⟩ := zn_inv hf
  refine z_ref ea3 ?_
  refine lv_iload_n hx hb dX7_loses_11 rfl (lv_at hl 1 rfl) ?_
  refine lv_iconst (v := 0) hx hb dX7_loses_12 (by decide) ?_
  obtain ⟨hix, hf⟩ := zx_inv hf
  obtain ⟨r4, er4, hf⟩ := zlet_inv hf
  refine xp_132 hx hb hK hC hk_a3 hix er4 dX7_loses_13 (fun H locs hC => ?_)
  refine lv_aload_n hx hb dX7_loses_14 rfl (lv_at hl 0 rfl) ?_
  refine lv_dup hx hb dX7_loses_15 rfl ?_
  refine zg_7_41 hx hb hts hi7 hown hK hC hk_th w2 dX7_loses_16 ?_
  refine lv_iconst (v := 1) hx hb dX7_loses_19 (by decide) ?_
  refine lv_iadd hx hb dX7_loses_20 ?_
  obtain ⟨r5, er5, hf⟩ := zlet_inv hf
  refine zp_7_41 hx hb hts hi7 hown hK hC hk_th w2 er5 dX7_loses_21 (fun H locs hC => ?_)
  refine lv_aload_n hx hb dX7_loses_24 rfl (lv_at hl 0 rfl) ?_
  refine lv_iload_n hx hb dX7_loses_25 rfl (lv_at hl 1 rfl) ?_
  obtain ⟨x7, hc6, hf⟩ := zb_inv hf
  refine z_ci (z_rV (As := [.int p1]) (rest := []) ⟨hx, hb, hml, hown, hts⟩ (c_X7_heir (l := l) (D := D) (cy := cy) (base := base) (st := st) (K := K) (L := L) (c := c) (r := r5) (o := o) (z := z) th p1 hk_th hc6) (cwV 1 hts gX7_loses_X7_heir rfl rfl rfl (by decide +kernel) ⟨Nat.le_of_ble_eq_true rfl, Nat.le_of_ble_eq_true rfl⟩) hG hC (zC.recv (ci := 7) (fs := _) hK hC (by rw [hk_th]; decide) (by rw [hk_th]; exact zc_7 cy _ _) rfl) rfl hl.1 rfl (lv_room (Nat.le_of_ble_eq_true rfl)) dX7_loses_26 ⟨Nat.le_of_ble_eq_true rfl, Nat.le_of_ble_eq_true rfl⟩) hC (fun H locs hC => ?_)
  refine lv_istore_n (lv' := [(2, .int x7), (0, .ref th), (1, .int p1)]) hx hb dX7_loses_29 rfl hl (by decide) rfl (fun ls hl => ?_)
  refine lv_iload_n hx hb dX7_loses_30 rfl (lv_at hl 0 rfl) ?_
  refine lv_if_ge (tgt := 35) hx hb dX7_loses_31 (by decide) (fun h20 => ?_) (fun h20 => ?_)
  · have hf := zif_t hf h20
    refine lv_aload_n hx hb dX7_loses_35 rfl (lv_at hl 1 rfl) ?_
    refine lv_dup hx hb dX7_loses_36 rfl ?_
    refine zg_7_42 hx hb hts hi7 hown hK hC hk_th w3 dX7_loses_37 ?_
    refine lv_iconst (v := 1) hx hb dX7_loses_40 (by decide) ?_
    refine lv_iadd hx hb dX7_loses_41 ?_
    obtain ⟨r8, er8, hf⟩ := zlet_inv hf
    refine zp_7_42 hx hb hts hi7 hown hK hC hk_th w3 er8 dX7_loses_42 (fun H locs hC => ?_)
    refine lv_aload_n hx hb dX7_loses_45 rfl (lv_at hl 1 rfl) ?_
    refine zg_7_8 hx hb hts hi7 hown hK hC hk_th w4 dX7_loses_46 ?_
    obtain ⟨a9, ea9, hk_a9, hf⟩ := zn_inv hf
    refine z_ref ea9 ?_
    refine lv_iload_n hx hb dX7_loses_49 rfl (lv_at hl 0 rfl) ?_
    refine lv_iconst (v := 0) hx hb dX7_loses_50 (by decide) ?_
    obtain ⟨hix, hf⟩ := zx_inv hf
    obtain ⟨r10, er10, hf⟩ := zlet_inv hf
    refine xp_108 hx hb hK hC hk_a9 hix er10 dX7_loses_51 (fun H locs hC => ?_)
    refine lv_aload_n hx hb dX7_loses_52 rfl (lv_at hl 1 rfl) ?_
    refine zg_7_12 hx hb hts hi7 hown hK hC hk_th w0 dX7_loses_53 ?_
    obtain ⟨a11, ea11, hk_a11, hf⟩ := zn_inv hf
    refine z_ref ea11 ?_
    refine lv_iload_n hx hb dX7_loses_56 rfl (lv_at hl 0 rfl) ?_
    refine lv_iconst (v := 1) hx hb dX7_loses_57 (by decide) ?_
    obtain ⟨hix, hf⟩ := zx_inv hf
    obtain ⟨r12, er12, hf⟩ := zlet_inv hf
    refine xp_112 hx hb hK hC hk_a11 hix (Or.inr rfl) er12 dX7_loses_58 (fun H locs hC => ?_)
    refine lv_aload_n hx hb dX7_loses_59 rfl (lv_at hl 1 rfl) ?_
    refine zg_7_13 hx hb hts hi7 hown hK hC hk_th w5 dX7_loses_60 ?_
    obtain ⟨a13, ea13, hk_a13, hf⟩ := zn_inv hf
    refine z_ref ea13 ?_
    refine lv_iload_n hx hb dX7_loses_63 rfl (lv_at hl 0 rfl) ?_
    refine lv_aload_n hx hb dX7_loses_64 rfl (lv_at hl 1 rfl) ?_
    refine zg_7_13 hx hb hts hi7 hown hK hC hk_th w5 dX7_loses_65 ?_
    refine z_ref ea13 ?_
    refine lv_iload_n hx hb dX7_loses_68 rfl (lv_at hl 2 rfl) ?_
    obtain ⟨hix, hf⟩ := zx_inv hf
    refine xg_113 hx hb hK hC hk_a13 hix dX7_loses_69 ?_
    obtain ⟨hix, hf⟩ := zx_inv hf
    obtain ⟨r14, er14, hf⟩ := zlet_inv hf
    refine xp_113 hx hb hK hC hk_a13 hix er14 dX7_loses_70 (fun H locs hC => ?_)
    refine lv_aload_n hx hb dX7_loses_71 rfl (lv_at hl 1 rfl) ?_
    refine zg_7_14 hx hb hts hi7 hown hK hC hk_th w6 dX7_loses_72 ?_
    obtain ⟨a15, ea15, hk_a15, hf⟩ := zn_inv hf
    refine z_ref ea15 ?_
    refine lv_iload_n hx hb dX7_loses_75 rfl (lv_at hl 0 rfl) ?_
    refine lv_aload_n hx hb dX7_loses_76 rfl (lv_at hl 1 rfl) ?_
    refine zg_7_14 hx hb hts hi7 hown hK hC hk_th w6 dX7_loses_77 ?_
    refine z_ref ea15 ?_
    refine lv_iload_n hx hb dX7_loses_80 rfl (lv_at hl 2 rfl) ?_
    obtain ⟨hix, hf⟩ := zx_inv hf
    refine xg_114 hx hb hK hC hk_a15 hix dX7_loses_81 ?_
    obtain ⟨hix, hf⟩ := zx_inv hf
    obtain ⟨r16, er16, hf⟩ := zlet_inv hf
    refine xp_114 hx hb hK hC hk_a15 hix er16 dX7_loses_82 (fun H locs hC => ?_)
    refine lv_aload_n hx hb dX7_loses_83 rfl (lv_at hl 1 rfl) ?_
    refine zg_7_11 hx hb hts hi7 hown hK hC hk_th w7 dX7_loses_84 ?_
    obtain ⟨a17, ea17, hk_a17, hf⟩ := zn_inv hf
    refine z_ref ea17 ?_
    refine lv_iload_n hx hb dX7_loses_87 rfl (lv_at hl 0 rfl) ?_
    refine lv_aload_n hx hb dX7_loses_88 rfl (lv_at hl 1 rfl) ?_
    refine zg_7_36 hx hb hts hi7 hown hK hC hk_th w8 dX7_loses_89 ?_
    obtain ⟨hix, hf⟩ := zx_inv hf
    obtain ⟨r18, er18, hf⟩ := zlet_inv hf
    refine xp_111 hx hb hK hC hk_a17 hix er18 dX7_loses_92 (fun H locs hC => ?_)
    refine lv_aload_n hx hb dX7_loses_93 rfl (lv_at hl 1 rfl) ?_
    refine lv_dup hx hb dX7_loses_94 rfl ?_
    refine zg_7_36 hx hb hts hi7 hown hK hC hk_th w8 dX7_loses_95 ?_
    refine lv_iconst (v := 1) hx hb dX7_loses_98 (by decide) ?_
    refine lv_iadd hx hb dX7_loses_99 ?_
    obtain ⟨r19, er19, hf⟩ := zlet_inv hf
    refine zp_7_36 hx hb hts hi7 hown hK hC hk_th w8 er19 dX7_loses_100 (fun H locs hC => ?_)
    exact z_vretM hx hb hr hlocks hC hf dX7_loses_103
  · have hf := zif_f hf h20
    exact z_vretM hx hb hr hlocks hC hf dX7_loses_34
def f_X7_close_251 (K : Nat → Nat) (z : Nat) (th : Nat) : Nat → zS → Int32 → Int32 → Option (Int32 × zS)
  | 0, _, _, _ => none
  | n + 1, rA, v1, v2 =>
    (if (zi rA 35 th 0) ≤ v2 then zb (f_X7_rests K z rA th) fun r11 => zlet (zui r11 37 th 0 0) fun r12 => some (((zi r12 41 th 0) - v1), r12) else zn K (zr rA 50 th 0) 150 fun a13 => zn K (zr rA 49 th 0) 149 fun a14 => zx v2 200 <| zx (zi rA 149 a14 (Int32.toNatClampNeg v2)) 200 <| (if (zi rA 150 a13 (Int32.toNatClampNeg (zi rA 149 a14 (Int32.toNatClampNeg v2)))) = 0 then zlet (v2 + 1) fun x15 => f_X7_close_251 K z th n rA v1 x15 else zx v2 200 <| zb (f_X7_loses K z rA th (zi rA 149 a14 (Int32.toNatClampNeg v2))) fun r18 => zlet (v2 + 1) fun x19 => f_X7_close_251 K z th n r18 v1 x19))
def f_X7_close_206 (K : Nat → Nat) (z : Nat) (th : Nat) (rec61 : (zS → Int32 → Option (Int32 × zS))) (rA : zS) (v1 : Int32) (v3 : Int32) : Option (Int32 × zS) :=
  zn K (zr rA 50 th 0) 150 fun a27 => (if v3 = 0 then zx v1 200 <| zlet (zui rA 150 a27 (Int32.toNatClampNeg v1) 0) fun r28 => zlet (v1 + 1) fun x29 => rec61 r28 x29 else zn K (zr rA 32 th 0) 132 fun a30 => zx v1 200 <| zb (f_X7_bits K z rA (zi rA 132 a30 (Int32.toNatClampNeg v1))) fun x32 => (if x32 ≤ 2 then zx v1 200 <| zlet (zui rA 150 a27 (Int32.toNatClampNeg v1) 0) fun r33 => zlet (v1 + 1) fun x34 => rec61 r33 x34 else zx v1 200 <| zlet (zui rA 150 a27 (Int32.toNatClampNeg v1) 1) fun r35 => zlet (v1 + 1) fun x36 => rec61 r35 x36))
def f_X7_close_200 (K : Nat → Nat) (z : Nat) (th : Nat) (rec61 : (zS → Int32 → Option (Int32 × zS))) (rA : zS) (v1 : Int32) (v3 : Int32) (s0 : Nat) (s1 : Int32) (s2 : Int32) (s3 : Int32) : Option (Int32 × zS) :=
  zx s1 200 <| zlet (zui rA 132 s0 (Int32.toNatClampNeg s1) ((s2 ||| s3) &&& 255)) fun r40 => f_X7_close_206 K z th rec61 r40 v1 v3
def f_X7_close_173 (K : Nat → Nat) (z : Nat) (th : Nat) (rec61 : (zS → Int32 → Option (Int32 × zS))) (rA : zS) (v1 : Int32) (v2 : Int32) (s0 : Int32) : Option (Int32 × zS) :=
  (if v2 = 0 then f_X7_close_206 K z th rec61 rA v1 s0 else zn K (zr rA 32 th 0) 132 fun a39 => zx v1 200 <| (if s0 = 0 then f_X7_close_200 K z th rec61 rA v1 s0 a39 v1 ((zi rA 132 a39 (Int32.toNatClampNeg v1)) <<< (1 &&& 31)) 0 else f_X7_close_200 K z th rec61 rA v1 s0 a39 v1 ((zi rA 132 a39 (Int32.toNatClampNeg v1)) <<< (1 &&& 31)) 1))
def f_X7_close_172 (K : Nat → Nat) (z : Nat) (th : Nat) (rec61 : (zS → Int32 → Option (Int32 × zS))) (rA : zS) (v1 : Int32) (v2 : Int32) : Option (Int32 × zS) :=
  f_X7_close_173 K z th rec61 rA v1 v2 0
def f_X7_close_145 (K : Nat → Nat) (z : Nat) (th : Nat) (rec61 : (zS → Int32 → Option (Int32 × zS))) (rA : zS) (v1 : Int32) (s0 : Int32) : Option (Int32 × zS) :=
  (if s0 = 0 then f_X7_close_172 K z th rec61 rA v1 s0 else zn K (zr rA 21 th 0) 121 fun a43 => zx v1 200 <| (if (zi rA 121 a43 (Int32.toNatClampNeg v1)) = 0 then zn K (zr rA 22 th 0) 122 fun a44 => zx v1 200 <| (if (zi rA 122 a44 (Int32.toNatClampNeg v1)) = 0 then f_X7_close_173 K z th rec61 rA v1 s0 1 else f_X7_close_172 K z th rec61 rA v1 s0) else f_X7_close_172 K z th rec61 rA v1 s0))
def f_X7_close_144 (K : Nat → Nat) (z : Nat) (th : Nat) (rec61 : (zS → Int32 → Option (Int32 × zS))) (rA : zS) (v1 : Int32) : Option (Int32 × zS) :=
  f_X7_close_145 K z th rec61 rA v1 0
def f_X7_close_117 (K : Nat → Nat) (z : Nat) (th : Nat) (rec61 : (zS → Int32 → Option (Int32 × zS))) (rA : zS) (v1 : Int32) (s0 : Nat) (s1 : Int32) (s2 : Int32) (s3 : Int32) : Option (Int32 × zS) :=
  zx s1 200 <| zlet (zui rA 131 s0 (Int32.toNatClampNeg s1) ((s2 ||| s3) &&& 255)) fun r25 => zn K (zr r25 12 th 0) 112 fun a26 => zx v1 200 <| (if (zi r25 112 a26 (Int32.toNatClampNeg v1)) = 0 then f_X7_close_144 K z th rec61 r25 v1 else zb (f_X7_couldStand K z r25 th v1) fun x49 => (if x49 = 0 then f_X7_close_144 K z th rec61 r25 v1 else f_X7_close_145 K z th rec61 r25 v1 1))
def f_X7_close_90 (K : Nat → Nat) (z : Nat) (th : Nat) (rec61 : (zS → Int32 → Option (Int32 × zS))) (rA : zS) (v1 : Int32) : Option (Int32 × zS) :=
  zn K (zr rA 31 th 0) 131 fun a23 => zx v1 200 <| zn K (zr rA 21 th 0) 121 fun a24 => zx v1 200 <| (if (zi rA 121 a24 (Int32.toNatClampNeg v1)) = 0 then f_X7_close_117 K z th rec61 rA v1 a23 v1 ((zi rA 131 a23 (Int32.toNatClampNeg v1)) <<< (1 &&& 31)) 0 else f_X7_close_117 K z th rec61 rA v1 a23 v1 ((zi rA 131 a23 (Int32.toNatClampNeg v1)) <<< (1 &&& 31)) 1)
def f_X7_close_61 (K : Nat → Nat) (z : Nat) (th : Nat) : Nat → zS → Int32 → Option (Int32 × zS)
  | 0, _, _ => none
  | n + 1, rA, v1 =>
    (if (zi rA 35 th 0) ≤ v1 then zlet (zi rA 41 th 0) fun x5 => zb (f_X7_ranks K z rA th) fun r8 => f_X7_close_251 K z th z r8 x5 0 else zn K (zr rA 26 th 0) 126 fun a22 => zx v1 200 <| (if (zi rA 126 a22 (Int32.toNatClampNeg v1)) = 0 then f_X7_close_90 K z th (f_X7_close_61 K z th n) rA v1 else zn K (zr rA 33 th 0) 133 fun a53 => zx v1 200 <| zlet (zui rA 133 a53 (Int32.toNatClampNeg v1) ((zi rA 40 th 0) - 1)) fun r54 => f_X7_close_90 K z th (f_X7_close_61 K z th n) r54 v1))
def f_X7_close_30 (K : Nat → Nat) (z : Nat) (th : Nat) : Nat → zS → Int32 → Option (Int32 × zS)
  | 0, _, _ => none
  | n + 1, rA, v1 =>
    (if (zi rA 35 th 0) ≤ v1 then f_X7_close_61 K z th z rA 0 else zn K (zr rA 27 th 0) 127 fun a57 => zx v1 200 <| (if (zi rA 127 a57 (Int32.toNatClampNeg v1)) = 0 then zlet (v1 + 1) fun x58 => f_X7_close_30 K z th n rA x58 else zb2 (f_X7_goes K z rA th v1) fun x60 r61 => zlet (v1 + 1) fun x62 => f_X7_close_30 K z th n r61 x62))
def f_X7_close_19 (K : Nat → Nat) (z : Nat) (th : Nat) (rA : zS) (s0 : Nat) (s1 : Int32) : Option (Int32 × zS) :=
  zb2 (f_X7_throwsIf K z rA s0 s1 1) fun x3 r4 => (if x3 = 0 then f_X7_close_30 K z th z r4 0 else some (0, r4))
def f_X7_close (K : Nat → Nat) (z : Nat) (r : zS) (th : Nat) : Option (Int32 × zS) :=
  zlet (zui r 0 th 0 0) fun r1 => (if (zi r1 37 th 0) = 3 then f_X7_close_19 K z th r1 th 0 else f_X7_close_19 K z th r1 th 1)
set_option maxRecDepth 100000 in
set_option maxHeartbeats 4000000 in
theorem c_X7_close {l : Launch} {D : va_G} {cy : Nat → ClassId} {base : Nat} {st : Nat → Nat} {K : Nat → Nat} {L : List Nat} {c r : zS} {o : Int64} {z : Nat} (th : Nat) {rv : Int32} {rf : zS}  (hk_th : K th = 7) (hf : f_X7_close K z r th = some (rv, rf)) : Met l yX7_close wsX7_close ({ frames := 4, cells := 0, slots := 0, locals := 92 }) (va_Pc [.ref th] (zGW zts0 zns0 D cy base st K L (c, r, o))) (va_Qi (fun (rr : Int32) (_ : Unit) => rr = rv) (fun _ => zB D cy base K L (c, rf, o)) (zA base)) 0 0 (zA base) := by
  refine Met.ofW (cc := cX7_close) (maxL := 4) (ret := (some .int)) (by decide) rfl ?_
  intro p e s m args below meth cd s₁ B hml hv
  obtain ⟨rfl, hG⟩ := hv
  have hx := B.exec
  have hb := B.bytes
  have hr := B.returns
  have hts := atoms_spec (ws := wsX7_close) B.pre
  have hown : s.vm.findClass RX7 = some m.cls := findClass_of_methodNamed B.named
  have hlocks := B.notSynchronized
  have hC := hG.enter
  have hK := hG.2.2.2.1
  have hi7 : ∀ w ∈ wsX70, w ∈ wsX7_close := by decide +kernel
  have w0 := hts (.fieldLink RX7 127 "MarketSquareModel" "thrown" "I") (by decide +kernel)
  have w1 := hts (.fieldLink RX7 214 "MarketSquareModel" "time" "I") (by decide +kernel)
  have w2 := hts (.fieldLink RX7 131 "MarketSquareModel" "traders" "I") (by decide +kernel)
  have w3 := hts (.fieldLink RX7 261 "MarketSquareModel" "lost" "I") (by decide +kernel)
  have w4 := hts (.fieldLink RX7 124 "MarketSquareModel" "misses" "[Z") (by decide +kernel)
  have w5 := hts (.fieldLink RX7 121 "MarketSquareModel" "ranked" "[I") (by decide +kernel)
  have w6 := hts (.fieldLink RX7 84 "MarketSquareModel" "stood" "[Z") (by decide +kernel)
  have w7 := hts (.fieldLink RX7 99 "MarketSquareModel" "thereBits" "[I") (by decide +kernel)
  have w8 := hts (.fieldLink RX7 69 "MarketSquareModel" "isThere" "[Z") (by decide +kernel)
  have w9 := hts (.fieldLink RX7 42 "MarketSquareModel" "hasPitch" "[Z") (by decide +kernel)
  have w10 := hts (.fieldLink RX7 102 "MarketSquareModel" "awayBits" "[I") (by decide +kernel)
  have w11 := hts (.fieldLink RX7 72 "MarketSquareModel" "gaveWord" "[Z") (by decide +kernel)
  have w12 := hts (.fieldLink RX7 105 "MarketSquareModel" "last" "[I") (by decide +kernel)
  have w13 := hts (.fieldLink RX7 240 "MarketSquareModel" "begun" "I") (by decide +kernel)
  have w14 := hts (.fieldLink RX7 87 "MarketSquareModel" "stands" "[Z") (by decide +kernel)
  have hl := lv_entry ([.ref th]) (n := 4) (Nat.le_of_ble_eq_true rfl)
  rw [lg_entry_eq]
  generalize (lg_sl ([.ref th]) ++ List.replicate (4 - (lg_sl ([.ref th])).length) Slot.unset).toArray = ls at hl ⊢
  have hl : lv_has ls 4 [(0, .ref th)] := hl
  have L251 : ∀ (n251 : Nat) (rA : zS) (H : Heap) (locs : List Loc) (ls : Array Slot) (v1 : Int32) (v2 : Int32), zC D cy base K L (c, rA, o) s.heap H locs → lv_has ls 4 [(0, .ref th), (1, .int v1), (2, .int v2)] → f_X7_close_251 K z th n251 rA v1 v2 = some (rv, rf) → W p l e (headSpec wsX7_close ({ frames := 4, cells := 0, slots := 0, locals := 92 })).room s m ([.ref th] : List Value).toArray below meth cd H locs 0 0 (MQ below (va_Qi (fun (rr : Int32) (_ : Unit) => rr = rv) (fun _ => zB D cy base K L (c, rf, o)) (zA base)) ([.ref th] : List Value).toArray s 0 0 (zA base)) (F0 m 251 ls []) := by
    intro n251
    induction n251 with
    | zero => intro rA H locs ls v1 v2 hC hl hf; rw [f_X7_close_251] at hf; cases hf
    | succ n251 ih251 =>
      intro rA H locs ls v1 v2 hC hl hf
      rw [f_X7_close_251] at hf
      refine lv_iload_n hx hb dX7_close_251 rfl (lv_at hl 2 rfl) ?_
      refine lv_aload_n hx hb dX7_close_252 rfl (lv_at hl 0 rfl) ?_
      refine zg_7_35 hx hb hts hi7 hown hK hC hk_th w2 dX7_close_253 ?_
      refine lv_icmp_ge (tgt := 289) hx hb dX7_close_256 (by decide) (fun h21 => ?_) (fun h21 => ?_)
      · have hf := zif_t hf h21
        refine lv_aload_n hx hb dX7_close_289 rfl (lv_at hl 0 rfl) ?_
        obtain ⟨r11, hc9, hf⟩ := zb_inv hf
        refine z_cv (z_rV (As := []) (rest := []) ⟨hx, hb, hml, hown, hts⟩ (c_X7_rests (l := l) (D := D) (cy := cy) (base := base) (st := st) (K := K) (L := L) (c := c) (r := rA) (o := o) (z := z) th hk_th hc9) (cwV 0 hts gX7_close_X7_rests rfl rfl rfl (by decide +kernel) ⟨Nat.le_of_ble_eq_true rfl, Nat.le_of_ble_eq_true rfl⟩) hG hC (zC.recv (ci := 7) (fs := _) hK hC (by rw [hk_th]; decide) (by rw [hk_th]; exact zc_7 cy _ _) rfl) rfl hl.1 rfl (lv_room (Nat.le_of_ble_eq_true rfl)) dX7_close_290 ⟨Nat.le_of_ble_eq_true rfl, Nat.le_of_ble_eq_true rfl⟩) hC (fun H locs hC => ?_)
        refine lv_aload_n hx hb dX7_close_293 rfl (lv_at hl 0 rfl) ?_
        refine lv_iconst (v := 0) hx hb dX7_close_294 (by decide) ?_
        obtain ⟨r12, er12, hf⟩ := zlet_inv hf
        refine zp_7_37 hx hb hts hi7 hown hK hC hk_th w1 er12 dX7_close_295 (fun H locs hC => ?_)
        refine lv_aload_n hx hb dX7_close_298 rfl (lv_at hl 0 rfl) ?_
        refine zg_7_41 hx hb hts hi7 hown hK hC hk_th w3 dX7_close_299 ?_
        refine lv_iload_n hx hb dX7_close_302 rfl (lv_at hl 1 rfl) ?_
        refine lv_isub hx hb dX7_close_303 ?_
        exact z_iretM hx hb hr hlocks hC hf dX7_close_304
      · have hf := zif_f hf h21
        refine lv_aload_n hx hb dX7_close_259 rfl (lv_at hl 0 rfl) ?_
        refine zg_7_50 hx hb hts hi7 hown hK hC hk_th w4 dX7_close_260 ?_
        obtain ⟨a13, ea13, hk_a13, hf⟩ := zn_inv hf
        refine z_ref ea13 ?_
        refine lv_aload_n hx hb dX7_close_263 rfl (lv_at hl 0 rfl) ?_
        refine zg_7_49 hx hb hts hi7 hown hK hC hk_th w5 dX7_close_264 ?_
        obtain ⟨a14, ea14, hk_a14, hf⟩ := zn_inv hf
        refine z_ref ea14 ?_
        refine lv_iload_n hx hb dX7_close_267 rfl (lv_at hl 2 rfl) ?_
        obtain ⟨hix, hf⟩ := zx_inv hf
        refine xg_149 hx hb hK hC hk_a14 hix dX7_close_268 ?_
        obtain ⟨hix, hf⟩ := zx_inv hf
        refine xg_150 hx hb hK hC hk_a13 hix dX7_close_269 ?_
        refine lv_if_eq (tgt := 283) hx hb dX7_close_270 (by decide) (fun h20 => ?_) (fun h20 => ?_)
        · have hf := zif_t hf h20
          obtain ⟨x15, ex15, hf⟩ := zlet_inv hf
          refine lv_iinc (v := x15) (lv' := [(2, .int x15), (0, .ref th), (1, .int v1)]) hx hb dX7_close_283 hl (k := 2) rfl (by rw [ex15]; rfl) (by decide) rfl (fun ls hl => ?_)
          refine lv_goto (tgt := 251) hx hb dX7_close_286 (by decide) ?_
          exact ih251 _ _ _ _ v1 x15 hC (lv_sub hl [1, 2, 0] rfl) hf
        · have hf := zif_f hf h20
          refine lv_aload_n hx hb dX7_close_273 rfl (lv_at hl 0 rfl) ?_
          refine lv_aload_n hx hb dX7_close_274 rfl (lv_at hl 0 rfl) ?_
          refine zg_7_49 hx hb hts hi7 hown hK hC hk_th w5 dX7_close_275 ?_
          refine z_ref ea14 ?_
          refine lv_iload_n hx hb dX7_close_278 rfl (lv_at hl 2 rfl) ?_
          obtain ⟨hix, hf⟩ := zx_inv hf
          refine xg_149 hx hb hK hC hk_a14 hix dX7_close_279 ?_
          obtain ⟨r18, hc16, hf⟩ := zb_inv hf
          refine z_cv (z_rV (As := [.int (zi rA 149 a14 (Int32.toNatClampNeg v2))]) (rest := []) ⟨hx, hb, hml, hown, hts⟩ (c_X7_loses (l := l) (D := D) (cy := cy) (base := base) (st := st) (K := K) (L := L) (c := c) (r := rA) (o := o) (z := z) th (zi rA 149 a14 (Int32.toNatClampNeg v2)) hk_th hc16) (cwV 1 hts gX7_close_X7_loses rfl rfl rfl (by decide +kernel) ⟨Nat.le_of_ble_eq_true rfl, Nat.le_of_ble_eq_true rfl⟩) hG hC (zC.recv (ci := 7) (fs := _) hK hC (by rw [hk_th]; decide) (by rw [hk_th]; exact zc_7 cy _ _) rfl) rfl hl.1 rfl (lv_room (Nat.le_of_ble_eq_true rfl)) dX7_close_280 ⟨Nat.le_of_ble_eq_true rfl, Nat.le_of_ble_eq_true rfl⟩) hC (fun H locs hC => ?_)
          obtain ⟨x19, ex19, hf⟩ := zlet_inv hf
          refine lv_iinc (v := x19) (lv' := [(2, .int x19), (0, .ref th), (1, .int v1)]) hx hb dX7_close_283 hl (k := 2) rfl (by rw [ex19]; rfl) (by decide) rfl (fun ls hl => ?_)
          refine lv_goto (tgt := 251) hx hb dX7_close_286 (by decide) ?_
          exact ih251 _ _ _ _ v1 x19 hC (lv_sub hl [1, 2, 0] rfl) hf
  have L61 : ∀ (n61 : Nat) (rA : zS) (H : Heap) (locs : List Loc) (ls : Array Slot) (v1 : Int32), zC D cy base K L (c, rA, o) s.heap H locs → lv_has ls 4 [(0, .ref th), (1, .int v1)] → f_X7_close_61 K z th n61 rA v1 = some (rv, rf) → W p l e (headSpec wsX7_close ({ frames := 4, cells := 0, slots := 0, locals := 92 })).room s m ([.ref th] : List Value).toArray below meth cd H locs 0 0 (MQ below (va_Qi (fun (rr : Int32) (_ : Unit) => rr = rv) (fun _ => zB D cy base K L (c, rf, o)) (zA base)) ([.ref th] : List Value).toArray s 0 0 (zA base)) (F0 m 61 ls []) := by
    intro n61
    induction n61 with
    | zero => intro rA H locs ls v1 hC hl hf; rw [f_X7_close_61] at hf; cases hf
    | succ n61 ih61 =>
      intro rA H locs ls v1 hC hl hf
      rw [f_X7_close_61] at hf
      have J206 : ∀ (rA : zS) (H : Heap) (locs : List Loc) (ls : Array Slot) (v1 : Int32) (v3 : Int32), zC D cy base K L (c, rA, o) s.heap H locs → lv_has ls 4 [(0, .ref th), (1, .int v1), (3, .int v3)] → f_X7_close_206 K z th (f_X7_close_61 K z th n61) rA v1 v3 = some (rv, rf) → W p l e (headSpec wsX7_close ({ frames := 4, cells := 0, slots := 0, locals := 92 })).room s m ([.ref th] : List Value).toArray below meth cd H locs 0 0 (MQ below (va_Qi (fun (rr : Int32) (_ : Unit) => rr = rv) (fun _ => zB D cy base K L (c, rf, o)) (zA base)) ([.ref th] : List Value).toArray s 0 0 (zA base)) (F0 m 206 ls []) := by
        intro rA H locs ls v1 v3 hC hl hf
        unfold f_X7_close_206 at hf
        refine lv_aload_n hx hb dX7_close_206 rfl (lv_at hl 0 rfl) ?_
        refine zg_7_50 hx hb hts hi7 hown hK hC hk_th w4 dX7_close_207 ?_
        obtain ⟨a27, ea27, hk_a27, hf⟩ := zn_inv hf
        refine z_ref ea27 ?_
        refine lv_iload_n hx hb dX7_close_210 rfl (lv_at hl 1 rfl) ?_
        refine lv_iload_n hx hb dX7_close_211 rfl (lv_at hl 2 rfl) ?_
        refine lv_if_eq (tgt := 232) hx hb dX7_close_212 (by decide) (fun h38 => ?_) (fun h38 => ?_)
        · have hf := zif_t hf h38
          refine lv_iconst (v := 0) hx hb dX7_close_232 (by decide) ?_
          obtain ⟨hix, hf⟩ := zx_inv hf
          obtain ⟨r28, er28, hf⟩ := zlet_inv hf
          refine xp_150 hx hb hK hC hk_a27 hix (Or.inl rfl) er28 dX7_close_233 (fun H locs hC => ?_)
          obtain ⟨x29, ex29, hf⟩ := zlet_inv hf
          refine lv_iinc (v := x29) (lv' := [(1, .int x29), (0, .ref th), (3, .int v3)]) hx hb dX7_close_234 hl (k := 1) rfl (by rw [ex29]; rfl) (by decide) rfl (fun ls hl => ?_)
          refine lv_goto (tgt := 61) hx hb dX7_close_237 (by decide) ?_
          exact ih61 _ _ _ _ x29 hC (lv_sub hl [1, 0] rfl) hf
        · have hf := zif_f hf h38
          refine lv_aload_n hx hb dX7_close_215 rfl (lv_at hl 0 rfl) ?_
          refine zg_7_32 hx hb hts hi7 hown hK hC hk_th w10 dX7_close_216 ?_
          obtain ⟨a30, ea30, hk_a30, hf⟩ := zn_inv hf
          refine z_ref ea30 ?_
          refine lv_iload_n hx hb dX7_close_219 rfl (lv_at hl 1 rfl) ?_
          obtain ⟨hix, hf⟩ := zx_inv hf
          refine xg_132 hx hb hK hC hk_a30 hix dX7_close_220 ?_
          obtain ⟨x32, hc31, hf⟩ := zb_inv hf
          refine z_ci (z_rS (b := 0) (As := [.int (zi rA 132 a30 (Int32.toNatClampNeg v1))]) (rest := [.int v1, .ref a27]) ⟨hx, hb, hml, hown, hts⟩ (c_X7_bits (l := l) (D := D) (cy := cy) (base := base) (st := st) (K := K) (L := L) (c := c) (r := rA) (o := o) (z := z) (zi rA 132 a30 (Int32.toNatClampNeg v1))  hc31) (va_cwS 1 hts gX7_close_X7_bits rfl rfl rfl (by decide +kernel) ⟨Nat.le_of_ble_eq_true rfl, Nat.le_of_ble_eq_true rfl⟩) hG hC rfl hl.1 rfl (lv_room (Nat.le_of_ble_eq_true rfl)) dX7_close_221 ⟨Nat.le_of_ble_eq_true rfl, Nat.le_of_ble_eq_true rfl⟩) hC (fun H locs hC => ?_)
          refine lv_iconst (v := 2) hx hb dX7_close_224 (by decide) ?_
          refine lv_icmp_le (tgt := 232) hx hb dX7_close_225 (by decide) (fun h37 => ?_) (fun h37 => ?_)
          · have hf := zif_t hf h37
            refine lv_iconst (v := 0) hx hb dX7_close_232 (by decide) ?_
            obtain ⟨hix, hf⟩ := zx_inv hf
            obtain ⟨r33, er33, hf⟩ := zlet_inv hf
            refine xp_150 hx hb hK hC hk_a27 hix (Or.inl rfl) er33 dX7_close_233 (fun H locs hC => ?_)
            obtain ⟨x34, ex34, hf⟩ := zlet_inv hf
            refine lv_iinc (v := x34) (lv' := [(1, .int x34), (0, .ref th), (3, .int v3)]) hx hb dX7_close_234 hl (k := 1) rfl (by rw [ex34]; rfl) (by decide) rfl (fun ls hl => ?_)
            refine lv_goto (tgt := 61) hx hb dX7_close_237 (by decide) ?_
            exact ih61 _ _ _ _ x34 hC (lv_sub hl [1, 0] rfl) hf
          · have hf := zif_f hf h37
            refine lv_iconst (v := 1) hx hb dX7_close_228 (by decide) ?_
            refine lv_goto (tgt := 233) hx hb dX7_close_229 (by decide) ?_
            obtain ⟨hix, hf⟩ := zx_inv hf
            obtain ⟨r35, er35, hf⟩ := zlet_inv hf
            refine xp_150 hx hb hK hC hk_a27 hix (Or.inr rfl) er35 dX7_close_233 (fun H locs hC => ?_)
            obtain ⟨x36, ex36, hf⟩ := zlet_inv hf
            refine lv_iinc (v := x36) (lv' := [(1, .int x36), (0, .ref th), (3, .int v3)]) hx hb dX7_close_234 hl (k := 1) rfl (by rw [ex36]; rfl) (by decide) rfl (fun ls hl => ?_)
            refine lv_goto (tgt := 61) hx hb dX7_close_237 (by decide) ?_
            exact ih61 _ _ _ _ x36 hC (lv_sub hl [1, 0] rfl) hf
      have J200 : ∀ (rA : zS) (H : Heap) (locs : List Loc) (ls : Array Slot) (v1 : Int32) (v3 : Int32) (s0 : Nat) (s1 : Int32) (s2 : Int32) (s3 : Int32), K s0 = 132 → zC D cy base K L (c, rA, o) s.heap H locs → lv_has ls 4 [(0, .ref th), (1, .int v1), (3, .int v3)] → f_X7_close_200 K z th (f_X7_close_61 K z th n61) rA v1 v3 s0 s1 s2 s3 = some (rv, rf) → W p l e (headSpec wsX7_close ({ frames := 4, cells := 0, slots := 0, locals := 92 })).room s m ([.ref th] : List Value).toArray below meth cd H locs 0 0 (MQ below (va_Qi (fun (rr : Int32) (_ : Unit) => rr = rv) (fun _ => zB D cy base K L (c, rf, o)) (zA base)) ([.ref th] : List Value).toArray s 0 0 (zA base)) (F0 m 200 ls [.int s3, .int s2, .int s1, .ref s0]) := by
        intro rA H locs ls v1 v3 s0 s1 s2 s3 hk_s0 hC hl hf
        unfold f_X7_close_200 at hf
        refine lv_ior hx hb dX7_close_200 ?_
        refine lv_sipush (v := 255) hx hb dX7_close_201 (by decide) ?_
        refine lv_iand hx hb dX7_close_204 ?_
        obtain ⟨hix, hf⟩ := zx_inv hf
        obtain ⟨r40, er40, hf⟩ := zlet_inv hf
        refine xp_132 hx hb hK hC hk_s0 hix er40 dX7_close_205 (fun H locs hC => ?_)
        exact J206 _ _ _ _ v1 v3 hC (lv_sub hl [0, 1, 2] rfl) hf
      have J173 : ∀ (rA : zS) (H : Heap) (locs : List Loc) (ls : Array Slot) (v1 : Int32) (v2 : Int32) (s0 : Int32), zC D cy base K L (c, rA, o) s.heap H locs → lv_has ls 4 [(0, .ref th), (1, .int v1), (2, .int v2)] → f_X7_close_173 K z th (f_X7_close_61 K z th n61) rA v1 v2 s0 = some (rv, rf) → W p l e (headSpec wsX7_close ({ frames := 4, cells := 0, slots := 0, locals := 92 })).room s m ([.ref th] : List Value).toArray below meth cd H locs 0 0 (MQ below (va_Qi (fun (rr : Int32) (_ : Unit) => rr = rv) (fun _ => zB D cy base K L (c, rf, o)) (zA base)) ([.ref th] : List Value).toArray s 0 0 (zA base)) (F0 m 173 ls [.int s0]) := by
        intro rA H locs ls v1 v2 s0 hC hl hf
        unfold f_X7_close_173 at hf
        refine lv_istore_n (lv' := [(3, .int s0), (0, .ref th), (1, .int v1), (2, .int v2)]) hx hb dX7_close_173 rfl hl (by decide) rfl (fun ls hl => ?_)
        refine lv_iload_n hx hb dX7_close_174 rfl (lv_at hl 3 rfl) ?_
        refine lv_if_eq (tgt := 206) hx hb dX7_close_175 (by decide) (fun h42 => ?_) (fun h42 => ?_)
        · have hf := zif_t hf h42
          exact J206 _ _ _ _ v1 s0 hC (lv_sub hl [1, 2, 0] rfl) hf
        · have hf := zif_f hf h42
          refine lv_aload_n hx hb dX7_close_178 rfl (lv_at hl 1 rfl) ?_
          refine zg_7_32 hx hb hts hi7 hown hK hC hk_th w10 dX7_close_179 ?_
          obtain ⟨a39, ea39, hk_a39, hf⟩ := zn_inv hf
          refine z_ref ea39 ?_
          refine lv_iload_n hx hb dX7_close_182 rfl (lv_at hl 2 rfl) ?_
          refine lv_aload_n hx hb dX7_close_183 rfl (lv_at hl 1 rfl) ?_
          refine zg_7_32 hx hb hts hi7 hown hK hC hk_th w10 dX7_close_184 ?_
          refine z_ref ea39 ?_
          refine lv_iload_n hx hb dX7_close_187 rfl (lv_at hl 2 rfl) ?_
          obtain ⟨hix, hf⟩ := zx_inv hf
          refine xg_132 hx hb hK hC hk_a39 hix dX7_close_188 ?_
          refine lv_iconst (v := 1) hx hb dX7_close_189 (by decide) ?_
          refine lv_ishl hx hb dX7_close_190 ?_
          refine lv_iload_n hx hb dX7_close_191 rfl (lv_at hl 0 rfl) ?_
          refine lv_if_eq (tgt := 199) hx hb dX7_close_192 (by decide) (fun h41 => ?_) (fun h41 => ?_)
          · have hf := zif_t hf h41
            refine lv_iconst (v := 0) hx hb dX7_close_199 (by decide) ?_
            exact J200 _ _ _ _ v1 s0 a39 v1 ((zi rA 132 a39 (Int32.toNatClampNeg v1)) <<< (1 &&& 31)) 0 hk_a39 hC (lv_sub hl [1, 2, 0] rfl) hf
          · have hf := zif_f hf h41
            refine lv_iconst (v := 1) hx hb dX7_close_195 (by decide) ?_
            refine lv_goto (tgt := 200) hx hb dX7_close_196 (by decide) ?_
            exact J200 _ _ _ _ v1 s0 a39 v1 ((zi rA 132 a39 (Int32.toNatClampNeg v1)) <<< (1 &&& 31)) 1 hk_a39 hC (lv_sub hl [1, 2, 0] rfl) hf
      have J172 : ∀ (rA : zS) (H : Heap) (locs : List Loc) (ls : Array Slot) (v1 : Int32) (v2 : Int32), zC D cy base K L (c, rA, o) s.heap H locs → lv_has ls 4 [(0, .ref th), (1, .int v1), (2, .int v2)] → f_X7_close_172 K z th (f_X7_close_61 K z th n61) rA v1 v2 = some (rv, rf) → W p l e (headSpec wsX7_close ({ frames := 4, cells := 0, slots := 0, locals := 92 })).room s m ([.ref th] : List Value).toArray below meth cd H locs 0 0 (MQ below (va_Qi (fun (rr : Int32) (_ : Unit) => rr = rv) (fun _ => zB D cy base K L (c, rf, o)) (zA base)) ([.ref th] : List Value).toArray s 0 0 (zA base)) (F0 m 172 ls []) := by
        intro rA H locs ls v1 v2 hC hl hf
        unfold f_X7_close_172 at hf
        refine lv_iconst (v := 0) hx hb dX7_close_172 (by decide) ?_
        exact J173 _ _ _ _ v1 v2 0 hC (lv_sub hl [0, 1, 2] rfl) hf
      have J145 : ∀ (rA : zS) (H : Heap) (locs : List Loc) (ls : Array Slot) (v1 : Int32) (s0 : Int32), zC D cy base K L (c, rA, o) s.heap H locs → lv_has ls 4 [(0, .ref th), (1, .int v1)] → f_X7_close_145 K z th (f_X7_close_61 K z th n61) rA v1 s0 = some (rv, rf) → W p l e (headSpec wsX7_close ({ frames := 4, cells := 0, slots := 0, locals := 92 })).room s m ([.ref th] : List Value).toArray below meth cd H locs 0 0 (MQ below (va_Qi (fun (rr : Int32) (_ : Unit) => rr = rv) (fun _ => zB D cy base K L (c, rf, o)) (zA base)) ([.ref th] : List Value).toArray s 0 0 (zA base)) (F0 m 145 ls [.int s0]) := by
        intro rA H locs ls v1 s0 hC hl hf
        unfold f_X7_close_145 at hf
        refine lv_istore_n (lv' := [(2, .int s0), (0, .ref th), (1, .int v1)]) hx hb dX7_close_145 rfl hl (by decide) rfl (fun ls hl => ?_)
        refine lv_iload_n hx hb dX7_close_146 rfl (lv_at hl 0 rfl) ?_
        refine lv_if_eq (tgt := 172) hx hb dX7_close_147 (by decide) (fun h47 => ?_) (fun h47 => ?_)
        · have hf := zif_t hf h47
          exact J172 _ _ _ _ v1 s0 hC (lv_sub hl [1, 2, 0] rfl) hf
        · have hf := zif_f hf h47
          refine lv_aload_n hx hb dX7_close_150 rfl (lv_at hl 1 rfl) ?_
          refine zg_7_21 hx hb hts hi7 hown hK hC hk_th w8 dX7_close_151 ?_
          obtain ⟨a43, ea43, hk_a43, hf⟩ := zn_inv hf
          refine z_ref ea43 ?_
          refine lv_iload_n hx hb dX7_close_154 rfl (lv_at hl 2 rfl) ?_
          obtain ⟨hix, hf⟩ := zx_inv hf
          refine xg_121 hx hb hK hC hk_a43 hix dX7_close_155 ?_
          refine lv_if_ne (tgt := 172) hx hb dX7_close_156 (by decide) (fun h46 => ?_) (fun h46 => ?_)
          · have hf := zif_f hf h46
            exact J172 _ _ _ _ v1 s0 hC (lv_sub hl [1, 2, 0] rfl) hf
          · have hf := zif_t hf h46
            refine lv_aload_n hx hb dX7_close_159 rfl (lv_at hl 1 rfl) ?_
            refine zg_7_22 hx hb hts hi7 hown hK hC hk_th w11 dX7_close_160 ?_
            obtain ⟨a44, ea44, hk_a44, hf⟩ := zn_inv hf
            refine z_ref ea44 ?_
            refine lv_iload_n hx hb dX7_close_163 rfl (lv_at hl 2 rfl) ?_
            obtain ⟨hix, hf⟩ := zx_inv hf
            refine xg_122 hx hb hK hC hk_a44 hix dX7_close_164 ?_
            refine lv_if_ne (tgt := 172) hx hb dX7_close_165 (by decide) (fun h45 => ?_) (fun h45 => ?_)
            · have hf := zif_f hf h45
              exact J172 _ _ _ _ v1 s0 hC (lv_sub hl [1, 2, 0] rfl) hf
            · have hf := zif_t hf h45
              refine lv_iconst (v := 1) hx hb dX7_close_168 (by decide) ?_
              refine lv_goto (tgt := 173) hx hb dX7_close_169 (by decide) ?_
              exact J173 _ _ _ _ v1 s0 1 hC (lv_sub hl [1, 2, 0] rfl) hf
      have J144 : ∀ (rA : zS) (H : Heap) (locs : List Loc) (ls : Array Slot) (v1 : Int32), zC D cy base K L (c, rA, o) s.heap H locs → lv_has ls 4 [(0, .ref th), (1, .int v1)] → f_X7_close_144 K z th (f_X7_close_61 K z th n61) rA v1 = some (rv, rf) → W p l e (headSpec wsX7_close ({ frames := 4, cells := 0, slots := 0, locals := 92 })).room s m ([.ref th] : List Value).toArray below meth cd H locs 0 0 (MQ below (va_Qi (fun (rr : Int32) (_ : Unit) => rr = rv) (fun _ => zB D cy base K L (c, rf, o)) (zA base)) ([.ref th] : List Value).toArray s 0 0 (zA base)) (F0 m 144 ls []) := by
        intro rA H locs ls v1 hC hl hf
        unfold f_X7_close_144 at hf
        refine lv_iconst (v := 0) hx hb dX7_close_144 (by decide) ?_
        exact J145 _ _ _ _ v1 0 hC (lv_sub hl [0, 1] rfl) hf
      have J117 : ∀ (rA : zS) (H : Heap) (locs : List Loc) (ls : Array Slot) (v1 : Int32) (s0 : Nat) (s1 : Int32) (s2 : Int32) (s3 : Int32), K s0 = 131 → zC D cy base K L (c, rA, o) s.heap H locs → lv_has ls 4 [(0, .ref th), (1, .int v1)] → f_X7_close_117 K z th (f_X7_close_61 K z th n61) rA v1 s0 s1 s2 s3 = some (rv, rf) → W p l e (headSpec wsX7_close ({ frames := 4, cells := 0, slots := 0, locals := 92 })).room s m ([.ref th] : List Value).toArray below meth cd H locs 0 0 (MQ below (va_Qi (fun (rr : Int32) (_ : Unit) => rr = rv) (fun _ => zB D cy base K L (c, rf, o)) (zA base)) ([.ref th] : List Value).toArray s 0 0 (zA base)) (F0 m 117 ls [.int s3, .int s2, .int s1, .ref s0]) := by
        intro rA H locs ls v1 s0 s1 s2 s3 hk_s0 hC hl hf
        unfold f_X7_close_117 at hf
        refine lv_ior hx hb dX7_close_117 ?_
        refine lv_sipush (v := 255) hx hb dX7_close_118 (by decide) ?_
        refine lv_iand hx hb dX7_close_121 ?_
        obtain ⟨hix, hf⟩ := zx_inv hf
        obtain ⟨r25, er25, hf⟩ := zlet_inv hf
        refine xp_131 hx hb hK hC hk_s0 hix er25 dX7_close_122 (fun H locs hC => ?_)
        refine lv_aload_n hx hb dX7_close_123 rfl (lv_at hl 0 rfl) ?_
        refine zg_7_12 hx hb hts hi7 hown hK hC hk_th w9 dX7_close_124 ?_
        obtain ⟨a26, ea26, hk_a26, hf⟩ := zn_inv hf
        refine z_ref ea26 ?_
        refine lv_iload_n hx hb dX7_close_127 rfl (lv_at hl 1 rfl) ?_
        obtain ⟨hix, hf⟩ := zx_inv hf
        refine xg_112 hx hb hK hC hk_a26 hix dX7_close_128 ?_
        refine lv_if_eq (tgt := 144) hx hb dX7_close_129 (by decide) (fun h51 => ?_) (fun h51 => ?_)
        · have hf := zif_t hf h51
          exact J144 _ _ _ _ v1 hC (lv_sub hl [0, 1] rfl) hf
        · have hf := zif_f hf h51
          refine lv_aload_n hx hb dX7_close_132 rfl (lv_at hl 0 rfl) ?_
          refine lv_iload_n hx hb dX7_close_133 rfl (lv_at hl 1 rfl) ?_
          obtain ⟨x49, hc48, hf⟩ := zb_inv hf
          refine z_ci (z_rV (As := [.int v1]) (rest := []) ⟨hx, hb, hml, hown, hts⟩ (c_X7_couldStand (l := l) (D := D) (cy := cy) (base := base) (st := st) (K := K) (L := L) (c := c) (r := r25) (o := o) (z := z) th v1 hk_th hc48) (cwV 1 hts gX7_close_X7_couldStand rfl rfl rfl (by decide +kernel) ⟨Nat.le_of_ble_eq_true rfl, Nat.le_of_ble_eq_true rfl⟩) hG hC (zC.recv (ci := 7) (fs := _) hK hC (by rw [hk_th]; decide) (by rw [hk_th]; exact zc_7 cy _ _) rfl) rfl hl.1 rfl (lv_room (Nat.le_of_ble_eq_true rfl)) dX7_close_134 ⟨Nat.le_of_ble_eq_true rfl, Nat.le_of_ble_eq_true rfl⟩) hC (fun H locs hC => ?_)
          refine lv_if_eq (tgt := 144) hx hb dX7_close_137 (by decide) (fun h50 => ?_) (fun h50 => ?_)
          · have hf := zif_t hf h50
            exact J144 _ _ _ _ v1 hC (lv_sub hl [0, 1] rfl) hf
          · have hf := zif_f hf h50
            refine lv_iconst (v := 1) hx hb dX7_close_140 (by decide) ?_
            refine lv_goto (tgt := 145) hx hb dX7_close_141 (by decide) ?_
            exact J145 _ _ _ _ v1 1 hC (lv_sub hl [0, 1] rfl) hf
      have J90 : ∀ (rA : zS) (H : Heap) (locs : List Loc) (ls : Array Slot) (v1 : Int32), zC D cy base K L (c, rA, o) s.heap H locs → lv_has ls 4 [(0, .ref th), (1, .int v1)] → f_X7_close_90 K z th (f_X7_close_61 K z th n61) rA v1 = some (rv, rf) → W p l e (headSpec wsX7_close ({ frames := 4, cells := 0, slots := 0, locals := 92 })).room s m ([.ref th] : List Value).toArray below meth cd H locs 0 0 (MQ below (va_Qi (fun (rr : Int32) (_ : Unit) => rr = rv) (fun _ => zB D cy base K L (c, rf, o)) (zA base)) ([.ref th] : List Value).toArray s 0 0 (zA base)) (F0 m 90 ls []) := by
        intro rA H locs ls v1 hC hl hf
        unfold f_X7_close_90 at hf
        refine lv_aload_n hx hb dX7_close_90 rfl (lv_at hl 0 rfl) ?_
        refine zg_7_31 hx hb hts hi7 hown hK hC hk_th w7 dX7_close_91 ?_
        obtain ⟨a23, ea23, hk_a23, hf⟩ := zn_inv hf
        refine z_ref ea23 ?_
        refine lv_iload_n hx hb dX7_close_94 rfl (lv_at hl 1 rfl) ?_
        refine lv_aload_n hx hb dX7_close_95 rfl (lv_at hl 0 rfl) ?_
        refine zg_7_31 hx hb hts hi7 hown hK hC hk_th w7 dX7_close_96 ?_
        refine z_ref ea23 ?_
        refine lv_iload_n hx hb dX7_close_99 rfl (lv_at hl 1 rfl) ?_
        obtain ⟨hix, hf⟩ := zx_inv hf
        refine xg_131 hx hb hK hC hk_a23 hix dX7_close_100 ?_
        refine lv_iconst (v := 1) hx hb dX7_close_101 (by decide) ?_
        refine lv_ishl hx hb dX7_close_102 ?_
        refine lv_aload_n hx hb dX7_close_103 rfl (lv_at hl 0 rfl) ?_
        refine zg_7_21 hx hb hts hi7 hown hK hC hk_th w8 dX7_close_104 ?_
        obtain ⟨a24, ea24, hk_a24, hf⟩ := zn_inv hf
        refine z_ref ea24 ?_
        refine lv_iload_n hx hb dX7_close_107 rfl (lv_at hl 1 rfl) ?_
        obtain ⟨hix, hf⟩ := zx_inv hf
        refine xg_121 hx hb hK hC hk_a24 hix dX7_close_108 ?_
        refine lv_if_eq (tgt := 116) hx hb dX7_close_109 (by decide) (fun h52 => ?_) (fun h52 => ?_)
        · have hf := zif_t hf h52
          refine lv_iconst (v := 0) hx hb dX7_close_116 (by decide) ?_
          exact J117 _ _ _ _ v1 a23 v1 ((zi rA 131 a23 (Int32.toNatClampNeg v1)) <<< (1 &&& 31)) 0 hk_a23 hC (lv_sub hl [0, 1] rfl) hf
        · have hf := zif_f hf h52
          refine lv_iconst (v := 1) hx hb dX7_close_112 (by decide) ?_
          refine lv_goto (tgt := 117) hx hb dX7_close_113 (by decide) ?_
          exact J117 _ _ _ _ v1 a23 v1 ((zi rA 131 a23 (Int32.toNatClampNeg v1)) <<< (1 &&& 31)) 1 hk_a23 hC (lv_sub hl [0, 1] rfl) hf
      refine lv_iload_n hx hb dX7_close_61 rfl (lv_at hl 1 rfl) ?_
      refine lv_aload_n hx hb dX7_close_62 rfl (lv_at hl 0 rfl) ?_
      refine zg_7_35 hx hb hts hi7 hown hK hC hk_th w2 dX7_close_63 ?_
      refine lv_icmp_ge (tgt := 240) hx hb dX7_close_66 (by decide) (fun h56 => ?_) (fun h56 => ?_)
      · have hf := zif_t hf h56
        refine lv_aload_n hx hb dX7_close_240 rfl (lv_at hl 0 rfl) ?_
        refine zg_7_41 hx hb hts hi7 hown hK hC hk_th w3 dX7_close_241 ?_
        obtain ⟨x5, ex5, hf⟩ := zlet_inv hf
        refine z_name ex5 ?_
        refine lv_istore_n (lv' := [(1, .int x5), (0, .ref th)]) hx hb dX7_close_244 rfl hl (by decide) rfl (fun ls hl => ?_)
        refine lv_aload_n hx hb dX7_close_245 rfl (lv_at hl 1 rfl) ?_
        obtain ⟨r8, hc6, hf⟩ := zb_inv hf
        refine z_cv (z_rV (As := []) (rest := []) ⟨hx, hb, hml, hown, hts⟩ (c_X7_ranks (l := l) (D := D) (cy := cy) (base := base) (st := st) (K := K) (L := L) (c := c) (r := rA) (o := o) (z := z) th hk_th hc6) (cwV 0 hts gX7_close_X7_ranks rfl rfl rfl (by decide +kernel) ⟨Nat.le_of_ble_eq_true rfl, Nat.le_of_ble_eq_true rfl⟩) hG hC (zC.recv (ci := 7) (fs := _) hK hC (by rw [hk_th]; decide) (by rw [hk_th]; exact zc_7 cy _ _) rfl) rfl hl.1 rfl (lv_room (Nat.le_of_ble_eq_true rfl)) dX7_close_246 ⟨Nat.le_of_ble_eq_true rfl, Nat.le_of_ble_eq_true rfl⟩) hC (fun H locs hC => ?_)
        refine lv_iconst (v := 0) hx hb dX7_close_249 (by decide) ?_
        refine lv_istore_n (lv' := [(2, .int 0), (1, .int x5), (0, .ref th)]) hx hb dX7_close_250 rfl hl (by decide) rfl (fun ls hl => ?_)
        exact L251 z _ _ _ _ x5 0 hC (lv_sub hl [2, 1, 0] rfl) hf
      · have hf := zif_f hf h56
        refine lv_aload_n hx hb dX7_close_69 rfl (lv_at hl 0 rfl) ?_
        refine zg_7_26 hx hb hts hi7 hown hK hC hk_th w6 dX7_close_70 ?_
        obtain ⟨a22, ea22, hk_a22, hf⟩ := zn_inv hf
        refine z_ref ea22 ?_
        refine lv_iload_n hx hb dX7_close_73 rfl (lv_at hl 1 rfl) ?_
        obtain ⟨hix, hf⟩ := zx_inv hf
        refine xg_126 hx hb hK hC hk_a22 hix dX7_close_74 ?_
        refine lv_if_eq (tgt := 90) hx hb dX7_close_75 (by decide) (fun h55 => ?_) (fun h55 => ?_)
        · have hf := zif_t hf h55
          exact J90 _ _ _ _ v1 hC (lv_sub hl [0, 1] rfl) hf
        · have hf := zif_f hf h55
          refine lv_aload_n hx hb dX7_close_78 rfl (lv_at hl 0 rfl) ?_
          refine zg_7_33 hx hb hts hi7 hown hK hC hk_th w12 dX7_close_79 ?_
          obtain ⟨a53, ea53, hk_a53, hf⟩ := zn_inv hf
          refine z_ref ea53 ?_
          refine lv_iload_n hx hb dX7_close_82 rfl (lv_at hl 1 rfl) ?_
          refine lv_aload_n hx hb dX7_close_83 rfl (lv_at hl 0 rfl) ?_
          refine zg_7_40 hx hb hts hi7 hown hK hC hk_th w13 dX7_close_84 ?_
          refine lv_iconst (v := 1) hx hb dX7_close_87 (by decide) ?_
          refine lv_isub hx hb dX7_close_88 ?_
          obtain ⟨hix, hf⟩ := zx_inv hf
          obtain ⟨r54, er54, hf⟩ := zlet_inv hf
          refine xp_133 hx hb hK hC hk_a53 hix er54 dX7_close_89 (fun H locs hC => ?_)
          exact J90 _ _ _ _ v1 hC (lv_sub hl [0, 1] rfl) hf
  have L30 : ∀ (n30 : Nat) (rA : zS) (H : Heap) (locs : List Loc) (ls : Array Slot) (v1 : Int32), zC D cy base K L (c, rA, o) s.heap H locs → lv_has ls 4 [(0, .ref th), (1, .int v1)] → f_X7_close_30 K z th n30 rA v1 = some (rv, rf) → W p l e (headSpec wsX7_close ({ frames := 4, cells := 0, slots := 0, locals := 92 })).room s m ([.ref th] : List Value).toArray below meth cd H locs 0 0 (MQ below (va_Qi (fun (rr : Int32) (_ : Unit) => rr = rv) (fun _ => zB D cy base K L (c, rf, o)) (zA base)) ([.ref th] : List Value).toArray s 0 0 (zA base)) (F0 m 30 ls []) := by
    intro n30
    induction n30 with
    | zero => intro rA H locs ls v1 hC hl hf; rw [f_X7_close_30] at hf; cases hf
    | succ n30 ih30 =>
      intro rA H locs ls v1 hC hl hf
      rw [f_X7_close_30] at hf
      refine lv_iload_n hx hb dX7_close_30 rfl (lv_at hl 1 rfl) ?_
      refine lv_aload_n hx hb dX7_close_31 rfl (lv_at hl 0 rfl) ?_
      refine zg_7_35 hx hb hts hi7 hown hK hC hk_th w2 dX7_close_32 ?_
      refine lv_icmp_ge (tgt := 59) hx hb dX7_close_35 (by decide) (fun h64 => ?_) (fun h64 => ?_)
      · have hf := zif_t hf h64
        refine lv_iconst (v := 0) hx hb dX7_close_59 (by decide) ?_
        refine lv_istore_n (lv' := [(1, .int 0), (0, .ref th)]) hx hb dX7_close_60 rfl hl (by decide) rfl (fun ls hl => ?_)
        exact L61 z _ _ _ _ 0 hC (lv_sub hl [1, 0] rfl) hf
      · have hf := zif_f hf h64
        refine lv_aload_n hx hb dX7_close_38 rfl (lv_at hl 0 rfl) ?_
        refine zg_7_27 hx hb hts hi7 hown hK hC hk_th w14 dX7_close_39 ?_
        obtain ⟨a57, ea57, hk_a57, hf⟩ := zn_inv hf
        refine z_ref ea57 ?_
        refine lv_iload_n hx hb dX7_close_42 rfl (lv_at hl 1 rfl) ?_
        obtain ⟨hix, hf⟩ := zx_inv hf
        refine xg_127 hx hb hK hC hk_a57 hix dX7_close_43 ?_
        refine lv_if_eq (tgt := 53) hx hb dX7_close_44 (by decide) (fun h63 => ?_) (fun h63 => ?_)
        · have hf := zif_t hf h63
          obtain ⟨x58, ex58, hf⟩ := zlet_inv hf
          refine lv_iinc (v := x58) (lv' := [(1, .int x58), (0, .ref th)]) hx hb dX7_close_53 hl (k := 1) rfl (by rw [ex58]; rfl) (by decide) rfl (fun ls hl => ?_)
          refine lv_goto (tgt := 30) hx hb dX7_close_56 (by decide) ?_
          exact ih30 _ _ _ _ x58 hC (lv_sub hl [1, 0] rfl) hf
        · have hf := zif_f hf h63
          refine lv_aload_n hx hb dX7_close_47 rfl (lv_at hl 0 rfl) ?_
          refine lv_iload_n hx hb dX7_close_48 rfl (lv_at hl 1 rfl) ?_
          obtain ⟨x60, r61, hc59, hf⟩ := zb2_inv hf
          refine z_ci (z_rV (As := [.int v1]) (rest := []) ⟨hx, hb, hml, hown, hts⟩ (c_X7_goes (l := l) (D := D) (cy := cy) (base := base) (st := st) (K := K) (L := L) (c := c) (r := rA) (o := o) (z := z) th v1 hk_th hc59) (cwV 1 hts gX7_close_X7_goes rfl rfl rfl (by decide +kernel) ⟨Nat.le_of_ble_eq_true rfl, Nat.le_of_ble_eq_true rfl⟩) hG hC (zC.recv (ci := 7) (fs := _) hK hC (by rw [hk_th]; decide) (by rw [hk_th]; exact zc_7 cy _ _) rfl) rfl hl.1 rfl (lv_room (Nat.le_of_ble_eq_true rfl)) dX7_close_49 ⟨Nat.le_of_ble_eq_true rfl, Nat.le_of_ble_eq_true rfl⟩) hC (fun H locs hC => ?_)
          refine lv_pop hx hb dX7_close_52 rfl ?_
          obtain ⟨x62, ex62, hf⟩ := zlet_inv hf
          refine lv_iinc (v := x62) (lv' := [(1, .int x62), (0, .ref th)]) hx hb dX7_close_53 hl (k := 1) rfl (by rw [ex62]; rfl) (by decide) rfl (fun ls hl => ?_)
          refine lv_goto (tgt := 30) hx hb dX7_close_56 (by decide) ?_
          exact ih30 _ _ _ _ x62 hC (lv_sub hl [1, 0] rfl) hf
  have J19 : ∀ (rA : zS) (H : Heap) (locs : List Loc) (ls : Array Slot) (s0 : Nat) (s1 : Int32), K s0 = 7 → zC D cy base K L (c, rA, o) s.heap H locs → lv_has ls 4 [(0, .ref th)] → f_X7_close_19 K z th rA s0 s1 = some (rv, rf) → W p l e (headSpec wsX7_close ({ frames := 4, cells := 0, slots := 0, locals := 92 })).room s m ([.ref th] : List Value).toArray below meth cd H locs 0 0 (MQ below (va_Qi (fun (rr : Int32) (_ : Unit) => rr = rv) (fun _ => zB D cy base K L (c, rf, o)) (zA base)) ([.ref th] : List Value).toArray s 0 0 (zA base)) (F0 m 19 ls [.int s1, .ref s0]) := by
    intro rA H locs ls s0 s1 hk_s0 hC hl hf
    unfold f_X7_close_19 at hf
    refine lv_iconst (v := 1) hx hb dX7_close_19 (by decide) ?_
    obtain ⟨x3, r4, hc2, hf⟩ := zb2_inv hf
    refine z_ci (z_rV (As := [.int s1, .int 1]) (rest := []) ⟨hx, hb, hml, hown, hts⟩ (c_X7_throwsIf (l := l) (D := D) (cy := cy) (base := base) (st := st) (K := K) (L := L) (c := c) (r := rA) (o := o) (z := z) s0 s1 1 hk_s0 hc2) (cwV 2 hts gX7_close_X7_throwsIf rfl rfl rfl (by decide +kernel) ⟨Nat.le_of_ble_eq_true rfl, Nat.le_of_ble_eq_true rfl⟩) hG hC (zC.recv (ci := 7) (fs := _) hK hC (by rw [hk_s0]; decide) (by rw [hk_s0]; exact zc_7 cy _ _) rfl) rfl hl.1 rfl (lv_room (Nat.le_of_ble_eq_true rfl)) dX7_close_20 ⟨Nat.le_of_ble_eq_true rfl, Nat.le_of_ble_eq_true rfl⟩) hC (fun H locs hC => ?_)
    refine lv_if_eq (tgt := 28) hx hb dX7_close_23 (by decide) (fun h65 => ?_) (fun h65 => ?_)
    · have hf := zif_t hf h65
      refine lv_iconst (v := 0) hx hb dX7_close_28 (by decide) ?_
      refine lv_istore_n (lv' := [(1, .int 0), (0, .ref th)]) hx hb dX7_close_29 rfl hl (by decide) rfl (fun ls hl => ?_)
      exact L30 z _ _ _ _ 0 hC (lv_sub hl [1, 0] rfl) hf
    · have hf := zif_f hf h65
      refine lv_iconst (v := 0) hx hb dX7_close_26 (by decide) ?_
      exact z_iretM hx hb hr hlocks hC hf dX7_close_27
  unfold f_X7_close at hf
  refine lv_aload_n hx hb dX7_close_0 rfl (lv_at hl 0 rfl) ?_
  refine lv_iconst (v := 0) hx hb dX7_close_1 (by decide) ?_
  obtain ⟨r1, er1, hf⟩ := zlet_inv hf
  refine zp_7_0 hx hb hts hi7 hown hK hC hk_th w0 er1 dX7_close_2 (fun H locs hC => ?_)
  refine lv_aload_n hx hb dX7_close_5 rfl (lv_at hl 0 rfl) ?_
  refine lv_aload_n hx hb dX7_close_6 rfl (lv_at hl 0 rfl) ?_
  refine zg_7_37 hx hb hts hi7 hown hK hC hk_th w1 dX7_close_7 ?_
  refine lv_iconst (v := 3) hx hb dX7_close_10 (by decide) ?_
  refine lv_icmp_eq (tgt := 18) hx hb dX7_close_11 (by decide) (fun h66 => ?_) (fun h66 => ?_)
  · have hf := zif_t hf h66
    refine lv_iconst (v := 0) hx hb dX7_close_18 (by decide) ?_
    exact J19 _ _ _ _ th 0 hk_th hC (lv_sub hl [0] rfl) hf
  · have hf := zif_f hf h66
    refine lv_iconst (v := 1) hx hb dX7_close_14 (by decide) ?_
    refine lv_goto (tgt := 19) hx hb dX7_close_15 (by decide) ?_
    exact J19 _ _ _ _ th 1 hk_th hC (lv_sub hl [0] rfl) hf
def f_X7_pay_41 (K : Nat → Nat) (z : Nat) (th : Nat) (p1 : Int32) (p2 : Int64) (rA : zS) (s0 : Nat) (s1 : Int32) : Option (Int64 × zS) :=
  zb2 (f_X7_throwsIf K z rA s0 s1 2) fun x8 r9 => (if x8 = 0 then zn K (zr r9 34 th 0) 134 fun a10 => zx p1 200 <| zx p1 200 <| zlet (zul r9 134 a10 (Int32.toNatClampNeg p1) ((zl r9 134 a10 (Int32.toNatClampNeg p1)) - p2)) fun r11 => zlet (zul r11 44 th 0 ((zl r11 44 th 0) + p2)) fun r12 => zn K (zr r12 34 th 0) 134 fun a13 => zx p1 200 <| some ((zl r12 134 a13 (Int32.toNatClampNeg p1)), r12) else some (0, r9))
def f_X7_pay_36 (K : Nat → Nat) (z : Nat) (th : Nat) (p1 : Int32) (p2 : Int64) (rA : zS) (s0 : Nat) : Option (Int64 × zS) :=
  f_X7_pay_41 K z th p1 p2 rA s0 1
def f_X7_pay (K : Nat → Nat) (z : Nat) (r : zS) (th : Nat) (p1 : Int32) (p2 : Int64) : Option (Int64 × zS) :=
  zlet (zui r 0 th 0 0) fun r1 => zb (f_X7_noTrader K z r1 th p1) fun x3 => zb2 (f_X7_throwsIf K z r1 th x3 1) fun x5 r6 => (if x5 = 0 then (if (lg_cmp p2 1) < 0 then f_X7_pay_36 K z th p1 p2 r6 th else zn K (zr r6 34 th 0) 134 fun a15 => zx p1 200 <| (if (lg_cmp p2 (zl r6 134 a15 (Int32.toNatClampNeg p1))) ≤ 0 then f_X7_pay_41 K z th p1 p2 r6 th 0 else f_X7_pay_36 K z th p1 p2 r6 th)) else some (0, r6))
set_option maxRecDepth 100000 in
set_option maxHeartbeats 4000000 in
theorem c_X7_pay {l : Launch} {D : va_G} {cy : Nat → ClassId} {base : Nat} {st : Nat → Nat} {K : Nat → Nat} {L : List Nat} {c r : zS} {o : Int64} {z : Nat} (th : Nat) (p1 : Int32) (p2 : Int64) {rv : Int64} {rf : zS}  (hk_th : K th = 7) (hf : f_X7_pay K z r th p1 p2 = some (rv, rf)) : Met l yX7_pay wsX7_pay ({ frames := 1, cells := 0, slots := 0, locals := 22 }) (va_Pc [.ref th, .int p1, .long p2] (zGW zts0 zns0 D cy base st K L (c, r, o))) (va_Ql (fun (rr : Int64) (_ : Unit) => rr = rv) (fun _ => zB D cy base K L (c, rf, o)) (zA base)) 0 0 (zA base) := by
  refine Met.ofW (cc := cX7_pay) (maxL := 4) (ret := (some .long)) (by decide) rfl ?_
  intro p e s m args below meth cd s₁ B hml hv
  obtain ⟨rfl, hG⟩ := hv
  have hx := B.exec
  have hb := B.bytes
  have hr := B.returns
  have hts := atoms_spec (ws := wsX7_pay) B.pre
  have hown : s.vm.findClass RX7 = some m.cls := findClass_of_methodNamed B.named
  have hlocks := B.notSynchronized
  have hC := hG.enter
  have hK := hG.2.2.2.1
  have hi7 : ∀ w ∈ wsX70, w ∈ wsX7_pay := by decide +kernel
  have w0 := hts (.fieldLink RX7 127 "MarketSquareModel" "thrown" "I") (by decide +kernel)
  have w1 := hts (.fieldLink RX7 108 "MarketSquareModel" "owed" "[J") (by decide +kernel)
  have w2 := hts (.fieldLink RX7 276 "MarketSquareModel" "payments" "J") (by decide +kernel)
  have hl := lv_entry ([.ref th, .int p1, .long p2]) (n := 4) (Nat.le_of_ble_eq_true rfl)
  rw [lg_entry_eq]
  generalize (lg_sl ([.ref th, .int p1, .long p2]) ++ List.replicate (4 - (lg_sl ([.ref th, .int p1, .long p2])).length) Slot.unset).toArray = ls at hl ⊢
  have hl : lv_has ls 4 [(0, .ref th), (1, .int p1), (2, .long p2)] := hl
  have J41 : ∀ (rA : zS) (H : Heap) (locs : List Loc) (ls : Array Slot) (s0 : Nat) (s1 : Int32), K s0 = 7 → zC D cy base K L (c, rA, o) s.heap H locs → lv_has ls 4 [(0, .ref th), (1, .int p1), (2, .long p2)] → f_X7_pay_41 K z th p1 p2 rA s0 s1 = some (rv, rf) → W p l e (headSpec wsX7_pay ({ frames := 1, cells := 0, slots := 0, locals := 22 })).room s m ([.ref th, .int p1, .long p2] : List Value).toArray below meth cd H locs 0 0 (MQ below (va_Ql (fun (rr : Int64) (_ : Unit) => rr = rv) (fun _ => zB D cy base K L (c, rf, o)) (zA base)) ([.ref th, .int p1, .long p2] : List Value).toArray s 0 0 (zA base)) (F0 m 41 ls [.int s1, .ref s0]) := by
    intro rA H locs ls s0 s1 hk_s0 hC hl hf
    unfold f_X7_pay_41 at hf
    refine lv_iconst (v := 2) hx hb dX7_pay_41 (by decide) ?_
    obtain ⟨x8, r9, hc7, hf⟩ := zb2_inv hf
    refine z_ci (z_rV (As := [.int s1, .int 2]) (rest := []) ⟨hx, hb, hml, hown, hts⟩ (c_X7_throwsIf (l := l) (D := D) (cy := cy) (base := base) (st := st) (K := K) (L := L) (c := c) (r := rA) (o := o) (z := z) s0 s1 2 hk_s0 hc7) (cwV 2 hts gX7_pay_X7_throwsIf rfl rfl rfl (by decide +kernel) ⟨Nat.le_of_ble_eq_true rfl, Nat.le_of_ble_eq_true rfl⟩) hG hC (zC.recv (ci := 7) (fs := _) hK hC (by rw [hk_s0]; decide) (by rw [hk_s0]; exact zc_7 cy _ _) rfl) rfl hl.1 rfl (lv_room (Nat.le_of_ble_eq_true rfl)) dX7_pay_42 ⟨Nat.le_of_ble_eq_true rfl, Nat.le_of_ble_eq_true rfl⟩) hC (fun H locs hC => ?_)
    refine lv_if_eq (tgt := 50) hx hb dX7_pay_45 (by decide) (fun h14 => ?_) (fun h14 => ?_)
    · have hf := zif_t hf h14
      refine lv_aload_n hx hb dX7_pay_50 rfl (lv_at hl 0 rfl) ?_
      refine zg_7_34 hx hb hts hi7 hown hK hC hk_th w1 dX7_pay_51 ?_
      obtain ⟨a10, ea10, hk_a10, hf⟩ := zn_inv hf
      refine z_ref ea10 ?_
      refine lv_iload_n hx hb dX7_pay_54 rfl (lv_at hl 1 rfl) ?_
      refine lv_dup2_11 hx hb dX7_pay_55 rfl rfl ?_
      obtain ⟨hix, hf⟩ := zx_inv hf
      refine xg_134 hx hb hK hC hk_a10 hix dX7_pay_56 ?_
      refine lv_lload_n hx hb dX7_pay_57 rfl (lv_at hl 2 rfl) ?_
      refine lv_lsub hx hb dX7_pay_58 ?_
      obtain ⟨hix, hf⟩ := zx_inv hf
      obtain ⟨r11, er11, hf⟩ := zlet_inv hf
      refine xp_134 hx hb hK hC hk_a10 hix er11 dX7_pay_59 (fun H locs hC => ?_)
      refine lv_aload_n hx hb dX7_pay_60 rfl (lv_at hl 0 rfl) ?_
      refine lv_dup hx hb dX7_pay_61 rfl ?_
      refine zg_7_44 hx hb hts hi7 hown hK hC hk_th w2 dX7_pay_62 ?_
      refine lv_lload_n hx hb dX7_pay_65 rfl (lv_at hl 2 rfl) ?_
      refine lv_ladd hx hb dX7_pay_66 ?_
      obtain ⟨r12, er12, hf⟩ := zlet_inv hf
      refine zp_7_44 hx hb hts hi7 hown hK hC hk_th w2 er12 dX7_pay_67 (fun H locs hC => ?_)
      refine lv_aload_n hx hb dX7_pay_70 rfl (lv_at hl 0 rfl) ?_
      refine zg_7_34 hx hb hts hi7 hown hK hC hk_th w1 dX7_pay_71 ?_
      obtain ⟨a13, ea13, hk_a13, hf⟩ := zn_inv hf
      refine z_ref ea13 ?_
      refine lv_iload_n hx hb dX7_pay_74 rfl (lv_at hl 1 rfl) ?_
      obtain ⟨hix, hf⟩ := zx_inv hf
      refine xg_134 hx hb hK hC hk_a13 hix dX7_pay_75 ?_
      exact z_lretM hx hb hr hlocks hC hf dX7_pay_76
    · have hf := zif_f hf h14
      refine lv_lconst (v := 0) hx hb dX7_pay_48 (by decide) ?_
      exact z_lretM hx hb hr hlocks hC hf dX7_pay_49
  have J36 : ∀ (rA : zS) (H : Heap) (locs : List Loc) (ls : Array Slot) (s0 : Nat), K s0 = 7 → zC D cy base K L (c, rA, o) s.heap H locs → lv_has ls 4 [(0, .ref th), (1, .int p1), (2, .long p2)] → f_X7_pay_36 K z th p1 p2 rA s0 = some (rv, rf) → W p l e (headSpec wsX7_pay ({ frames := 1, cells := 0, slots := 0, locals := 22 })).room s m ([.ref th, .int p1, .long p2] : List Value).toArray below meth cd H locs 0 0 (MQ below (va_Ql (fun (rr : Int64) (_ : Unit) => rr = rv) (fun _ => zB D cy base K L (c, rf, o)) (zA base)) ([.ref th, .int p1, .long p2] : List Value).toArray s 0 0 (zA base)) (F0 m 36 ls [.ref s0]) := by
    intro rA H locs ls s0 hk_s0 hC hl hf
    unfold f_X7_pay_36 at hf
    refine lv_iconst (v := 1) hx hb dX7_pay_36 (by decide) ?_
    refine lv_goto (tgt := 41) hx hb dX7_pay_37 (by decide) ?_
    exact J41 _ _ _ _ s0 1 hk_s0 hC (lv_sub hl [0, 1, 2] rfl) hf
  unfold f_X7_pay at hf
  refine lv_aload_n hx hb dX7_pay_0 rfl (lv_at hl 0 rfl) ?_
  refine lv_iconst (v := 0) hx hb dX7_pay_1 (by decide) ?_
  obtain ⟨r1, er1, hf⟩ := zlet_inv hf
  refine zp_7_0 hx hb hts hi7 hown hK hC hk_th w0 er1 dX7_pay_2 (fun H locs hC => ?_)
  refine lv_aload_n hx hb dX7_pay_5 rfl (lv_at hl 0 rfl) ?_
  refine lv_aload_n hx hb dX7_pay_6 rfl (lv_at hl 0 rfl) ?_
  refine lv_iload_n hx hb dX7_pay_7 rfl (lv_at hl 1 rfl) ?_
  obtain ⟨x3, hc2, hf⟩ := zb_inv hf
  refine z_ci (z_rV (As := [.int p1]) (rest := [.ref th]) ⟨hx, hb, hml, hown, hts⟩ (c_X7_noTrader (l := l) (D := D) (cy := cy) (base := base) (st := st) (K := K) (L := L) (c := c) (r := r1) (o := o) (z := z) th p1 hk_th hc2) (cwV 1 hts gX7_pay_X7_noTrader rfl rfl rfl (by decide +kernel) ⟨Nat.le_of_ble_eq_true rfl, Nat.le_of_ble_eq_true rfl⟩) hG hC (zC.recv (ci := 7) (fs := _) hK hC (by rw [hk_th]; decide) (by rw [hk_th]; exact zc_7 cy _ _) rfl) rfl hl.1 rfl (lv_room (Nat.le_of_ble_eq_true rfl)) dX7_pay_8 ⟨Nat.le_of_ble_eq_true rfl, Nat.le_of_ble_eq_true rfl⟩) hC (fun H locs hC => ?_)
  refine lv_iconst (v := 1) hx hb dX7_pay_11 (by decide) ?_
  obtain ⟨x5, r6, hc4, hf⟩ := zb2_inv hf
  refine z_ci (z_rV (As := [.int x3, .int 1]) (rest := []) ⟨hx, hb, hml, hown, hts⟩ (c_X7_throwsIf (l := l) (D := D) (cy := cy) (base := base) (st := st) (K := K) (L := L) (c := c) (r := r1) (o := o) (z := z) th x3 1 hk_th hc4) (cwV 2 hts gX7_pay_X7_throwsIf rfl rfl rfl (by decide +kernel) ⟨Nat.le_of_ble_eq_true rfl, Nat.le_of_ble_eq_true rfl⟩) hG hC (zC.recv (ci := 7) (fs := _) hK hC (by rw [hk_th]; decide) (by rw [hk_th]; exact zc_7 cy _ _) rfl) rfl hl.1 rfl (lv_room (Nat.le_of_ble_eq_true rfl)) dX7_pay_12 ⟨Nat.le_of_ble_eq_true rfl, Nat.le_of_ble_eq_true rfl⟩) hC (fun H locs hC => ?_)
  refine lv_if_ne (tgt := 48) hx hb dX7_pay_15 (by decide) (fun h18 => ?_) (fun h18 => ?_)
  · have hf := zif_f hf h18
    refine lv_lconst (v := 0) hx hb dX7_pay_48 (by decide) ?_
    exact z_lretM hx hb hr hlocks hC hf dX7_pay_49
  · have hf := zif_t hf h18
    refine lv_aload_n hx hb dX7_pay_18 rfl (lv_at hl 0 rfl) ?_
    refine lv_lload_n hx hb dX7_pay_19 rfl (lv_at hl 2 rfl) ?_
    refine lv_lconst (v := 1) hx hb dX7_pay_20 (by decide) ?_
    refine W.lcmp hx hb dX7_pay_21 ?_
    refine lv_if_lt (tgt := 36) hx hb dX7_pay_22 (by decide) (fun h17 => ?_) (fun h17 => ?_)
    · have hf := zif_t hf h17
      exact J36 _ _ _ _ th hk_th hC (lv_sub hl [0, 1, 2] rfl) hf
    · have hf := zif_f hf h17
      refine lv_lload_n hx hb dX7_pay_25 rfl (lv_at hl 2 rfl) ?_
      refine lv_aload_n hx hb dX7_pay_26 rfl (lv_at hl 0 rfl) ?_
      refine zg_7_34 hx hb hts hi7 hown hK hC hk_th w1 dX7_pay_27 ?_
      obtain ⟨a15, ea15, hk_a15, hf⟩ := zn_inv hf
      refine z_ref ea15 ?_
      refine lv_iload_n hx hb dX7_pay_30 rfl (lv_at hl 1 rfl) ?_
      obtain ⟨hix, hf⟩ := zx_inv hf
      refine xg_134 hx hb hK hC hk_a15 hix dX7_pay_31 ?_
      refine W.lcmp hx hb dX7_pay_32 ?_
      refine lv_if_le (tgt := 40) hx hb dX7_pay_33 (by decide) (fun h16 => ?_) (fun h16 => ?_)
      · have hf := zif_t hf h16
        refine lv_iconst (v := 0) hx hb dX7_pay_40 (by decide) ?_
        exact J41 _ _ _ _ th 0 hk_th hC (lv_sub hl [0, 1, 2] rfl) hf
      · have hf := zif_f hf h16
        exact J36 _ _ _ _ th hk_th hC (lv_sub hl [0, 1, 2] rfl) hf
def f_X7_one (K : Nat → Nat) (z : Nat) (r : zS) (p1 : Int32) : Option Int32 :=
  (if p1 = 0 then some 0 else some 1)
set_option maxRecDepth 100000 in
set_option maxHeartbeats 4000000 in
theorem c_X7_one {l : Launch} {D : va_G} {cy : Nat → ClassId} {base : Nat} {st : Nat → Nat} {K : Nat → Nat} {L : List Nat} {c r : zS} {o : Int64} {z : Nat} (p1 : Int32) {rv : Int32}  (hf : f_X7_one K z r p1 = some rv) : Met l yX7_one wsX7_one ({ frames := 0, cells := 0, slots := 0, locals := 0 }) (va_Pc [.int p1] (zGW zts0 zns0 D cy base st K L (c, r, o))) (va_Qi (fun (rr : Int32) (_ : Unit) => rr = rv) (fun _ => zB D cy base K L (c, r, o)) (zA base)) 0 0 (zA base) := by
  refine Met.ofW (cc := cX7_one) (maxL := 1) (ret := (some .int)) (by decide) rfl ?_
  intro p e s m args below meth cd s₁ B hml hv
  obtain ⟨rfl, hG⟩ := hv
  have hx := B.exec
  have hb := B.bytes
  have hr := B.returns
  have hts := atoms_spec (ws := wsX7_one) B.pre
  have hown : s.vm.findClass RX7 = some m.cls := findClass_of_methodNamed B.named
  have hlocks := B.notSynchronized
  have hC := hG.enter
  have hK := hG.2.2.2.1
  have hl := lv_entry ([.int p1]) (n := 1) (Nat.le_of_ble_eq_true rfl)
  rw [lg_entry_eq]
  generalize (lg_sl ([.int p1]) ++ List.replicate (1 - (lg_sl ([.int p1])).length) Slot.unset).toArray = ls at hl ⊢
  have hl : lv_has ls 1 [(0, .int p1)] := hl
  unfold f_X7_one at hf
  refine lv_iload_n hx hb dX7_one_0 rfl (lv_at hl 0 rfl) ?_
  refine lv_if_eq (tgt := 8) hx hb dX7_one_1 (by decide) (fun h1 => ?_) (fun h1 => ?_)
  · have hf := zif_t hf h1
    refine lv_iconst (v := 0) hx hb dX7_one_8 (by decide) ?_
    exact z_iret hx hb hr hlocks hC hf dX7_one_9
  · have hf := zif_f hf h1
    refine lv_iconst (v := 1) hx hb dX7_one_4 (by decide) ?_
    refine lv_goto (tgt := 9) hx hb dX7_one_5 (by decide) ?_
    exact z_iret hx hb hr hlocks hC hf dX7_one_9
def f_X7_look (K : Nat → Nat) (z : Nat) (r : zS) (th : Nat) (p1 : Int32) (p2 : Int32) : Option (Int32 × zS) :=
  zlet (zui r 0 th 0 0) fun r1 => zb (f_X7_noTrader K z r1 th p1) fun x3 => zb2 (f_X7_throwsIf K z r1 th x3 1) fun x5 r6 => (if x5 = 0 then (if p2 = 0 then zn K (zr r6 8 th 0) 108 fun a8 => zx p1 200 <| some ((zi r6 108 a8 (Int32.toNatClampNeg p1)), r6) else (if p2 = 1 then zn K (zr r6 9 th 0) 109 fun a10 => zx p1 200 <| some ((zi r6 109 a10 (Int32.toNatClampNeg p1)), r6) else (if p2 = 2 then zn K (zr r6 10 th 0) 110 fun a12 => zx p1 200 <| some ((zi r6 110 a12 (Int32.toNatClampNeg p1)), r6) else (if p2 = 3 then zn K (zr r6 11 th 0) 111 fun a14 => zx p1 200 <| some ((zi r6 111 a14 (Int32.toNatClampNeg p1)), r6) else (if p2 = 4 then zn K (zr r6 12 th 0) 112 fun a16 => zx p1 200 <| (if (zi r6 112 a16 (Int32.toNatClampNeg p1)) = 0 then some ((-1), r6) else zn K (zr r6 13 th 0) 113 fun a17 => zx p1 200 <| zn K (zr r6 14 th 0) 114 fun a18 => zx p1 200 <| some (((200 * (zi r6 113 a17 (Int32.toNatClampNeg p1))) + (zi r6 114 a18 (Int32.toNatClampNeg p1))), r6)) else (if p2 = 5 then zn K (zr r6 27 th 0) 127 fun a21 => zx p1 200 <| (if (zi r6 127 a21 (Int32.toNatClampNeg p1)) = 0 then some ((-1), r6) else zn K (zr r6 28 th 0) 128 fun a22 => zx p1 200 <| zn K (zr r6 29 th 0) 129 fun a23 => zx p1 200 <| some (((200 * (zi r6 128 a22 (Int32.toNatClampNeg p1))) + (zi r6 129 a23 (Int32.toNatClampNeg p1))), r6)) else (if p2 = 6 then zn K (zr r6 21 th 0) 121 fun a26 => zx p1 200 <| zb (f_X7_one K z r6 (zi r6 121 a26 (Int32.toNatClampNeg p1))) fun x28 => some (x28, r6) else (if p2 = 7 then zn K (zr r6 22 th 0) 122 fun a30 => zx p1 200 <| (if (zi r6 122 a30 (Int32.toNatClampNeg p1)) = 0 then zb (f_X7_one K z r6 0) fun x32 => some (x32, r6) else zn K (zr r6 21 th 0) 121 fun a33 => zx p1 200 <| (if (zi r6 121 a33 (Int32.toNatClampNeg p1)) = 0 then zb (f_X7_one K z r6 1) fun x37 => some (x37, r6) else zb (f_X7_one K z r6 0) fun x35 => some (x35, r6))) else (if p2 = 8 then zn K (zr r6 23 th 0) 123 fun a41 => zx p1 200 <| zb (f_X7_one K z r6 (zi r6 123 a41 (Int32.toNatClampNeg p1))) fun x43 => some (x43, r6) else (if p2 = 9 then zn K (zr r6 24 th 0) 124 fun a45 => zx p1 200 <| zb (f_X7_one K z r6 (zi r6 124 a45 (Int32.toNatClampNeg p1))) fun x47 => some (x47, r6) else (if p2 = 10 then zn K (zr r6 25 th 0) 125 fun a49 => zx p1 200 <| zb (f_X7_one K z r6 (zi r6 125 a49 (Int32.toNatClampNeg p1))) fun x51 => some (x51, r6) else (if p2 = 11 then zn K (zr r6 31 th 0) 131 fun a53 => zx p1 200 <| zb (f_X7_bits K z r6 (zi r6 131 a53 (Int32.toNatClampNeg p1))) fun x55 => some (x55, r6) else (if p2 = 12 then zn K (zr r6 33 th 0) 133 fun a57 => zx p1 200 <| some ((zi r6 133 a57 (Int32.toNatClampNeg p1)), r6) else (if p2 = 13 then zn K (zr r6 32 th 0) 132 fun a59 => zx p1 200 <| zb (f_X7_bits K z r6 (zi r6 132 a59 (Int32.toNatClampNeg p1))) fun x61 => some (x61, r6) else (if p2 = 14 then zn K (zr r6 18 th 0) 118 fun a63 => zx p1 200 <| some ((zi r6 118 a63 (Int32.toNatClampNeg p1)), r6) else (if p2 = 15 then zn K (zr r6 19 th 0) 119 fun a65 => zx p1 200 <| zb (f_X7_one K z r6 (zi r6 119 a65 (Int32.toNatClampNeg p1))) fun x67 => some (x67, r6) else (if p2 = 16 then zn K (zr r6 20 th 0) 120 fun a69 => zx p1 200 <| zb (f_X7_one K z r6 (zi r6 120 a69 (Int32.toNatClampNeg p1))) fun x71 => some (x71, r6) else zlet (zui r6 0 th 0 2) fun r72 => some (0, r72)))))))))))))))))) else some (0, r6))
set_option maxRecDepth 100000 in
set_option maxHeartbeats 4000000 in
theorem c_X7_look {l : Launch} {D : va_G} {cy : Nat → ClassId} {base : Nat} {st : Nat → Nat} {K : Nat → Nat} {L : List Nat} {c r : zS} {o : Int64} {z : Nat} (th : Nat) (p1 : Int32) (p2 : Int32) {rv : Int32} {rf : zS}  (hk_th : K th = 7) (hf : f_X7_look K z r th p1 p2 = some (rv, rf)) : Met l yX7_look wsX7_look ({ frames := 1, cells := 0, slots := 0, locals := 22 }) (va_Pc [.ref th, .int p1, .int p2] (zGW zts0 zns0 D cy base st K L (c, r, o))) (va_Qi (fun (rr : Int32) (_ : Unit) => rr = rv) (fun _ => zB D cy base K L (c, rf, o)) (zA base)) 0 0 (zA base) := by
  refine Met.ofW (cc := cX7_look) (maxL := 3) (ret := (some .int)) (by decide) rfl ?_
  intro p e s m args below meth cd s₁ B hml hv
  obtain ⟨rfl, hG⟩ := hv
  have hx := B.exec
  have hb := B.bytes
  have hr := B.returns
  have hts := atoms_spec (ws := wsX7_look) B.pre
  have hown : s.vm.findClass RX7 = some m.cls := findClass_of_methodNamed B.named
  have hlocks := B.notSynchronized
  have hC := hG.enter
  have hK := hG.2.2.2.1
  have hi7 : ∀ w ∈ wsX70, w ∈ wsX7_look := by decide +kernel
  have w0 := hts (.fieldLink RX7 127 "MarketSquareModel" "thrown" "I") (by decide +kernel)
  have w1 := hts (.fieldLink RX7 30 "MarketSquareModel" "kind" "[I") (by decide +kernel)
  have w2 := hts (.fieldLink RX7 33 "MarketSquareModel" "trade" "[I") (by decide +kernel)
  have w3 := hts (.fieldLink RX7 36 "MarketSquareModel" "front" "[I") (by decide +kernel)
  have w4 := hts (.fieldLink RX7 39 "MarketSquareModel" "rank" "[I") (by decide +kernel)
  have w5 := hts (.fieldLink RX7 42 "MarketSquareModel" "hasPitch" "[Z") (by decide +kernel)
  have w6 := hts (.fieldLink RX7 45 "MarketSquareModel" "pitchRow" "[I") (by decide +kernel)
  have w7 := hts (.fieldLink RX7 48 "MarketSquareModel" "pitchPlace" "[I") (by decide +kernel)
  have w8 := hts (.fieldLink RX7 87 "MarketSquareModel" "stands" "[Z") (by decide +kernel)
  have w9 := hts (.fieldLink RX7 90 "MarketSquareModel" "stallRow" "[I") (by decide +kernel)
  have w10 := hts (.fieldLink RX7 93 "MarketSquareModel" "stallPlace" "[I") (by decide +kernel)
  have w11 := hts (.fieldLink RX7 69 "MarketSquareModel" "isThere" "[Z") (by decide +kernel)
  have w12 := hts (.fieldLink RX7 72 "MarketSquareModel" "gaveWord" "[Z") (by decide +kernel)
  have w13 := hts (.fieldLink RX7 75 "MarketSquareModel" "slighted" "[Z") (by decide +kernel)
  have w14 := hts (.fieldLink RX7 78 "MarketSquareModel" "passed" "[Z") (by decide +kernel)
  have w15 := hts (.fieldLink RX7 81 "MarketSquareModel" "hasLeft" "[Z") (by decide +kernel)
  have w16 := hts (.fieldLink RX7 99 "MarketSquareModel" "thereBits" "[I") (by decide +kernel)
  have w17 := hts (.fieldLink RX7 105 "MarketSquareModel" "last" "[I") (by decide +kernel)
  have w18 := hts (.fieldLink RX7 102 "MarketSquareModel" "awayBits" "[I") (by decide +kernel)
  have w19 := hts (.fieldLink RX7 60 "MarketSquareModel" "wishMany" "[I") (by decide +kernel)
  have w20 := hts (.fieldLink RX7 63 "MarketSquareModel" "any" "[Z") (by decide +kernel)
  have w21 := hts (.fieldLink RX7 66 "MarketSquareModel" "wants" "[Z") (by decide +kernel)
  have hl := lv_entry ([.ref th, .int p1, .int p2]) (n := 3) (Nat.le_of_ble_eq_true rfl)
  rw [lg_entry_eq]
  generalize (lg_sl ([.ref th, .int p1, .int p2]) ++ List.replicate (3 - (lg_sl ([.ref th, .int p1, .int p2])).length) Slot.unset).toArray = ls at hl ⊢
  have hl : lv_has ls 3 [(0, .ref th), (1, .int p1), (2, .int p2)] := hl
  unfold f_X7_look at hf
  refine lv_aload_n hx hb dX7_look_0 rfl (lv_at hl 0 rfl) ?_
  refine lv_iconst (v := 0) hx hb dX7_look_1 (by decide) ?_
  obtain ⟨r1, er1, hf⟩ := zlet_inv hf
  refine zp_7_0 hx hb hts hi7 hown hK hC hk_th w0 er1 dX7_look_2 (fun H locs hC => ?_)
  refine lv_aload_n hx hb dX7_look_5 rfl (lv_at hl 0 rfl) ?_
  refine lv_aload_n hx hb dX7_look_6 rfl (lv_at hl 0 rfl) ?_
  refine lv_iload_n hx hb dX7_look_7 rfl (lv_at hl 1 rfl) ?_
  obtain ⟨x3, hc2, hf⟩ := zb_inv hf
  refine z_ci (z_rV (As := [.int p1]) (rest := [.ref th]) ⟨hx, hb, hml, hown, hts⟩ (c_X7_noTrader (l := l) (D := D) (cy := cy) (base := base) (st := st) (K := K) (L := L) (c := c) (r := r1) (o := o) (z := z) th p1 hk_th hc2) (cwV 1 hts gX7_look_X7_noTrader rfl rfl rfl (by decide +kernel) ⟨Nat.le_of_ble_eq_true rfl, Nat.le_of_ble_eq_true rfl⟩) hG hC (zC.recv (ci := 7) (fs := _) hK hC (by rw [hk_th]; decide) (by rw [hk_th]; exact zc_7 cy _ _) rfl) rfl hl.1 rfl (lv_room (Nat.le_of_ble_eq_true rfl)) dX7_look_8 ⟨Nat.le_of_ble_eq_true rfl, Nat.le_of_ble_eq_true rfl⟩) hC (fun H locs hC => ?_)
  refine lv_iconst (v := 1) hx hb dX7_look_11 (by decide) ?_
  obtain ⟨x5, r6, hc4, hf⟩ := zb2_inv hf
  refine z_ci (z_rV (As := [.int x3, .int 1]) (rest := []) ⟨hx, hb, hml, hown, hts⟩ (c_X7_throwsIf (l := l) (D := D) (cy := cy) (base := base) (st := st) (K := K) (L := L) (c := c) (r := r1) (o := o) (z := z) th x3 1 hk_th hc4) (cwV 2 hts gX7_look_X7_throwsIf rfl rfl rfl (by decide +kernel) ⟨Nat.le_of_ble_eq_true rfl, Nat.le_of_ble_eq_true rfl⟩) hG hC (zC.recv (ci := 7) (fs := _) hK hC (by rw [hk_th]; decide) (by rw [hk_th]; exact zc_7 cy _ _) rfl) rfl hl.1 rfl (lv_room (Nat.le_of_ble_eq_true rfl)) dX7_look_12 ⟨Nat.le_of_ble_eq_true rfl, Nat.le_of_ble_eq_true rfl⟩) hC (fun H locs hC => ?_)
  refine lv_if_eq (tgt := 20) hx hb dX7_look_15 (by decide) (fun h73 => ?_) (fun h73 => ?_)
  · have hf := zif_t hf h73
    refine lv_iload_n hx hb dX7_look_20 rfl (lv_at hl 2 rfl) ?_
    by_cases h7 : p2 = 0
    · have hf := zif_t hf h7
      refine z_name h7.symm ?_
      refine lv_tableIn (off := 83) (tgt := 104) hx hb dX7_look_21 (by decide) (by decide) (by decide) (by decide) ?_
      refine lv_aload_n hx hb dX7_look_104 rfl (lv_at hl 0 rfl) ?_
      refine zg_7_8 hx hb hts hi7 hown hK hC hk_th w1 dX7_look_105 ?_
      obtain ⟨a8, ea8, hk_a8, hf⟩ := zn_inv hf
      refine z_ref ea8 ?_
      refine lv_iload_n hx hb dX7_look_108 rfl (lv_at hl 1 rfl) ?_
      obtain ⟨hix, hf⟩ := zx_inv hf
      refine xg_108 hx hb hK hC hk_a8 hix dX7_look_109 ?_
      exact z_iretM hx hb hr hlocks hC hf dX7_look_110
    have hf := zif_f hf h7
    by_cases h9 : p2 = 1
    · have hf := zif_t hf h9
      refine z_name h9.symm ?_
      refine lv_tableIn (off := 90) (tgt := 111) hx hb dX7_look_21 (by decide) (by decide) (by decide) (by decide) ?_
      refine lv_aload_n hx hb dX7_look_111 rfl (lv_at hl 0 rfl) ?_
      refine zg_7_9 hx hb hts hi7 hown hK hC hk_th w2 dX7_look_112 ?_
      obtain ⟨a10, ea10, hk_a10, hf⟩ := zn_inv hf
      refine z_ref ea10 ?_
      refine lv_iload_n hx hb dX7_look_115 rfl (lv_at hl 1 rfl) ?_
      obtain ⟨hix, hf⟩ := zx_inv hf
      refine xg_109 hx hb hK hC hk_a10 hix dX7_look_116 ?_
      exact z_iretM hx hb hr hlocks hC hf dX7_look_117
    have hf := zif_f hf h9
    by_cases h11 : p2 = 2
    · have hf := zif_t hf h11
      refine z_name h11.symm ?_
      refine lv_tableIn (off := 97) (tgt := 118) hx hb dX7_look_21 (by decide) (by decide) (by decide) (by decide) ?_
      refine lv_aload_n hx hb dX7_look_118 rfl (lv_at hl 0 rfl) ?_
      refine zg_7_10 hx hb hts hi7 hown hK hC hk_th w3 dX7_look_119 ?_
      obtain ⟨a12, ea12, hk_a12, hf⟩ := zn_inv hf
      refine z_ref ea12 ?_
      refine lv_iload_n hx hb dX7_look_122 rfl (lv_at hl 1 rfl) ?_
      obtain ⟨hix, hf⟩ := zx_inv hf
      refine xg_110 hx hb hK hC hk_a12 hix dX7_look_123 ?_
      exact z_iretM hx hb hr hlocks hC hf dX7_look_124
    have hf := zif_f hf h11
    by_cases h13 : p2 = 3
    · have hf := zif_t hf h13
      refine z_name h13.symm ?_
      refine lv_tableIn (off := 104) (tgt := 125) hx hb dX7_look_21 (by decide) (by decide) (by decide) (by decide) ?_
      refine lv_aload_n hx hb dX7_look_125 rfl (lv_at hl 0 rfl) ?_
      refine zg_7_11 hx hb hts hi7 hown hK hC hk_th w4 dX7_look_126 ?_
      obtain ⟨a14, ea14, hk_a14, hf⟩ := zn_inv hf
      refine z_ref ea14 ?_
      refine lv_iload_n hx hb dX7_look_129 rfl (lv_at hl 1 rfl) ?_
      obtain ⟨hix, hf⟩ := zx_inv hf
      refine xg_111 hx hb hK hC hk_a14 hix dX7_look_130 ?_
      exact z_iretM hx hb hr hlocks hC hf dX7_look_131
    have hf := zif_f hf h13
    by_cases h15 : p2 = 4
    · have hf := zif_t hf h15
      refine z_name h15.symm ?_
      refine lv_tableIn (off := 111) (tgt := 132) hx hb dX7_look_21 (by decide) (by decide) (by decide) (by decide) ?_
      refine lv_aload_n hx hb dX7_look_132 rfl (lv_at hl 0 rfl) ?_
      refine zg_7_12 hx hb hts hi7 hown hK hC hk_th w5 dX7_look_133 ?_
      obtain ⟨a16, ea16, hk_a16, hf⟩ := zn_inv hf
      refine z_ref ea16 ?_
      refine lv_iload_n hx hb dX7_look_136 rfl (lv_at hl 1 rfl) ?_
      obtain ⟨hix, hf⟩ := zx_inv hf
      refine xg_112 hx hb hK hC hk_a16 hix dX7_look_137 ?_
      refine lv_if_eq (tgt := 161) hx hb dX7_look_138 (by decide) (fun h19 => ?_) (fun h19 => ?_)
      · have hf := zif_t hf h19
        refine lv_iconst (v := (-1)) hx hb dX7_look_161 (by decide) ?_
        exact z_iretM hx hb hr hlocks hC hf dX7_look_162
      · have hf := zif_f hf h19
        refine lv_sipush (v := 200) hx hb dX7_look_141 (by decide) ?_
        refine lv_aload_n hx hb dX7_look_144 rfl (lv_at hl 0 rfl) ?_
        refine zg_7_13 hx hb hts hi7 hown hK hC hk_th w6 dX7_look_145 ?_
        obtain ⟨a17, ea17, hk_a17, hf⟩ := zn_inv hf
        refine z_ref ea17 ?_
        refine lv_iload_n hx hb dX7_look_148 rfl (lv_at hl 1 rfl) ?_
        obtain ⟨hix, hf⟩ := zx_inv hf
        refine xg_113 hx hb hK hC hk_a17 hix dX7_look_149 ?_
        refine lv_imul hx hb dX7_look_150 ?_
        refine lv_aload_n hx hb dX7_look_151 rfl (lv_at hl 0 rfl) ?_
        refine zg_7_14 hx hb hts hi7 hown hK hC hk_th w7 dX7_look_152 ?_
        obtain ⟨a18, ea18, hk_a18, hf⟩ := zn_inv hf
        refine z_ref ea18 ?_
        refine lv_iload_n hx hb dX7_look_155 rfl (lv_at hl 1 rfl) ?_
        obtain ⟨hix, hf⟩ := zx_inv hf
        refine xg_114 hx hb hK hC hk_a18 hix dX7_look_156 ?_
        refine lv_iadd hx hb dX7_look_157 ?_
        refine lv_goto (tgt := 162) hx hb dX7_look_158 (by decide) ?_
        exact z_iretM hx hb hr hlocks hC hf dX7_look_162
    have hf := zif_f hf h15
    by_cases h20 : p2 = 5
    · have hf := zif_t hf h20
      refine z_name h20.symm ?_
      refine lv_tableIn (off := 142) (tgt := 163) hx hb dX7_look_21 (by decide) (by decide) (by decide) (by decide) ?_
      refine lv_aload_n hx hb dX7_look_163 rfl (lv_at hl 0 rfl) ?_
      refine zg_7_27 hx hb hts hi7 hown hK hC hk_th w8 dX7_look_164 ?_
      obtain ⟨a21, ea21, hk_a21, hf⟩ := zn_inv hf
      refine z_ref ea21 ?_
      refine lv_iload_n hx hb dX7_look_167 rfl (lv_at hl 1 rfl) ?_
      obtain ⟨hix, hf⟩ := zx_inv hf
      refine xg_127 hx hb hK hC hk_a21 hix dX7_look_168 ?_
      refine lv_if_eq (tgt := 192) hx hb dX7_look_169 (by decide) (fun h24 => ?_) (fun h24 => ?_)
      · have hf := zif_t hf h24
        refine lv_iconst (v := (-1)) hx hb dX7_look_192 (by decide) ?_
        exact z_iretM hx hb hr hlocks hC hf dX7_look_193
      · have hf := zif_f hf h24
        refine lv_sipush (v := 200) hx hb dX7_look_172 (by decide) ?_
        refine lv_aload_n hx hb dX7_look_175 rfl (lv_at hl 0 rfl) ?_
        refine zg_7_28 hx hb hts hi7 hown hK hC hk_th w9 dX7_look_176 ?_
        obtain ⟨a22, ea22, hk_a22, hf⟩ := zn_inv hf
        refine z_ref ea22 ?_
        refine lv_iload_n hx hb dX7_look_179 rfl (lv_at hl 1 rfl) ?_
        obtain ⟨hix, hf⟩ := zx_inv hf
        refine xg_128 hx hb hK hC hk_a22 hix dX7_look_180 ?_
        refine lv_imul hx hb dX7_look_181 ?_
        refine lv_aload_n hx hb dX7_look_182 rfl (lv_at hl 0 rfl) ?_
        refine zg_7_29 hx hb hts hi7 hown hK hC hk_th w10 dX7_look_183 ?_
        obtain ⟨a23, ea23, hk_a23, hf⟩ := zn_inv hf
        refine z_ref ea23 ?_
        refine lv_iload_n hx hb dX7_look_186 rfl (lv_at hl 1 rfl) ?_
        obtain ⟨hix, hf⟩ := zx_inv hf
        refine xg_129 hx hb hK hC hk_a23 hix dX7_look_187 ?_
        refine lv_iadd hx hb dX7_look_188 ?_
        refine lv_goto (tgt := 193) hx hb dX7_look_189 (by decide) ?_
        exact z_iretM hx hb hr hlocks hC hf dX7_look_193
    have hf := zif_f hf h20
    by_cases h25 : p2 = 6
    · have hf := zif_t hf h25
      refine z_name h25.symm ?_
      refine lv_tableIn (off := 173) (tgt := 194) hx hb dX7_look_21 (by decide) (by decide) (by decide) (by decide) ?_
      refine lv_aload_n hx hb dX7_look_194 rfl (lv_at hl 0 rfl) ?_
      refine zg_7_21 hx hb hts hi7 hown hK hC hk_th w11 dX7_look_195 ?_
      obtain ⟨a26, ea26, hk_a26, hf⟩ := zn_inv hf
      refine z_ref ea26 ?_
      refine lv_iload_n hx hb dX7_look_198 rfl (lv_at hl 1 rfl) ?_
      obtain ⟨hix, hf⟩ := zx_inv hf
      refine xg_121 hx hb hK hC hk_a26 hix dX7_look_199 ?_
      obtain ⟨x28, hc27, hf⟩ := zb_inv hf
      refine z_ci (z_rS (b := 0) (As := [.int (zi r6 121 a26 (Int32.toNatClampNeg p1))]) (rest := []) ⟨hx, hb, hml, hown, hts⟩ (c_X7_one (l := l) (D := D) (cy := cy) (base := base) (st := st) (K := K) (L := L) (c := c) (r := r6) (o := o) (z := z) (zi r6 121 a26 (Int32.toNatClampNeg p1))  hc27) (va_cwS 1 hts gX7_look_X7_one rfl rfl rfl (by decide +kernel) ⟨Nat.le_of_ble_eq_true rfl, Nat.le_of_ble_eq_true rfl⟩) hG hC rfl hl.1 rfl (lv_room (Nat.le_of_ble_eq_true rfl)) dX7_look_200 ⟨Nat.le_of_ble_eq_true rfl, Nat.le_of_ble_eq_true rfl⟩) hC (fun H locs hC => ?_)
      exact z_iretM hx hb hr hlocks hC hf dX7_look_203
    have hf := zif_f hf h25
    by_cases h29 : p2 = 7
    · have hf := zif_t hf h29
      refine z_name h29.symm ?_
      refine lv_tableIn (off := 183) (tgt := 204) hx hb dX7_look_21 (by decide) (by decide) (by decide) (by decide) ?_
      refine lv_aload_n hx hb dX7_look_204 rfl (lv_at hl 0 rfl) ?_
      refine zg_7_22 hx hb hts hi7 hown hK hC hk_th w12 dX7_look_205 ?_
      obtain ⟨a30, ea30, hk_a30, hf⟩ := zn_inv hf
      refine z_ref ea30 ?_
      refine lv_iload_n hx hb dX7_look_208 rfl (lv_at hl 1 rfl) ?_
      obtain ⟨hix, hf⟩ := zx_inv hf
      refine xg_122 hx hb hK hC hk_a30 hix dX7_look_209 ?_
      refine lv_if_eq (tgt := 226) hx hb dX7_look_210 (by decide) (fun h39 => ?_) (fun h39 => ?_)
      · have hf := zif_t hf h39
        refine lv_iconst (v := 0) hx hb dX7_look_226 (by decide) ?_
        obtain ⟨x32, hc31, hf⟩ := zb_inv hf
        refine z_ci (z_rS (b := 0) (As := [.int 0]) (rest := []) ⟨hx, hb, hml, hown, hts⟩ (c_X7_one (l := l) (D := D) (cy := cy) (base := base) (st := st) (K := K) (L := L) (c := c) (r := r6) (o := o) (z := z) 0  hc31) (va_cwS 1 hts gX7_look_X7_one rfl rfl rfl (by decide +kernel) ⟨Nat.le_of_ble_eq_true rfl, Nat.le_of_ble_eq_true rfl⟩) hG hC rfl hl.1 rfl (lv_room (Nat.le_of_ble_eq_true rfl)) dX7_look_227 ⟨Nat.le_of_ble_eq_true rfl, Nat.le_of_ble_eq_true rfl⟩) hC (fun H locs hC => ?_)
        exact z_iretM hx hb hr hlocks hC hf dX7_look_230
      · have hf := zif_f hf h39
        refine lv_aload_n hx hb dX7_look_213 rfl (lv_at hl 0 rfl) ?_
        refine zg_7_21 hx hb hts hi7 hown hK hC hk_th w11 dX7_look_214 ?_
        obtain ⟨a33, ea33, hk_a33, hf⟩ := zn_inv hf
        refine z_ref ea33 ?_
        refine lv_iload_n hx hb dX7_look_217 rfl (lv_at hl 1 rfl) ?_
        obtain ⟨hix, hf⟩ := zx_inv hf
        refine xg_121 hx hb hK hC hk_a33 hix dX7_look_218 ?_
        refine lv_if_ne (tgt := 226) hx hb dX7_look_219 (by decide) (fun h38 => ?_) (fun h38 => ?_)
        · have hf := zif_f hf h38
          refine lv_iconst (v := 0) hx hb dX7_look_226 (by decide) ?_
          obtain ⟨x35, hc34, hf⟩ := zb_inv hf
          refine z_ci (z_rS (b := 0) (As := [.int 0]) (rest := []) ⟨hx, hb, hml, hown, hts⟩ (c_X7_one (l := l) (D := D) (cy := cy) (base := base) (st := st) (K := K) (L := L) (c := c) (r := r6) (o := o) (z := z) 0  hc34) (va_cwS 1 hts gX7_look_X7_one rfl rfl rfl (by decide +kernel) ⟨Nat.le_of_ble_eq_true rfl, Nat.le_of_ble_eq_true rfl⟩) hG hC rfl hl.1 rfl (lv_room (Nat.le_of_ble_eq_true rfl)) dX7_look_227 ⟨Nat.le_of_ble_eq_true rfl, Nat.le_of_ble_eq_true rfl⟩) hC (fun H locs hC => ?_)
          exact z_iretM hx hb hr hlocks hC hf dX7_look_230
        · have hf := zif_t hf h38
          refine lv_iconst (v := 1) hx hb dX7_look_222 (by decide) ?_
          refine lv_goto (tgt := 227) hx hb dX7_look_223 (by decide) ?_
          obtain ⟨x37, hc36, hf⟩ := zb_inv hf
          refine z_ci (z_rS (b := 0) (As := [.int 1]) (rest := []) ⟨hx, hb, hml, hown, hts⟩ (c_X7_one (l := l) (D := D) (cy := cy) (base := base) (st := st) (K := K) (L := L) (c := c) (r := r6) (o := o) (z := z) 1  hc36) (va_cwS 1 hts gX7_look_X7_one rfl rfl rfl (by decide +kernel) ⟨Nat.le_of_ble_eq_true rfl, Nat.le_of_ble_eq_true rfl⟩) hG hC rfl hl.1 rfl (lv_room (Nat.le_of_ble_eq_true rfl)) dX7_look_227 ⟨Nat.le_of_ble_eq_true rfl, Nat.le_of_ble_eq_true rfl⟩) hC (fun H locs hC => ?_)
          exact z_iretM hx hb hr hlocks hC hf dX7_look_230
    have hf := zif_f hf h29
    by_cases h40 : p2 = 8
    · have hf := zif_t hf h40
      refine z_name h40.symm ?_
      refine lv_tableIn (off := 210) (tgt := 231) hx hb dX7_look_21 (by decide) (by decide) (by decide) (by decide) ?_
      refine lv_aload_n hx hb dX7_look_231 rfl (lv_at hl 0 rfl) ?_
      refine zg_7_23 hx hb hts hi7 hown hK hC hk_th w13 dX7_look_232 ?_
      obtain ⟨a41, ea41, hk_a41, hf⟩ := zn_inv hf
      refine z_ref ea41 ?_
      refine lv_iload_n hx hb dX7_look_235 rfl (lv_at hl 1 rfl) ?_
      obtain ⟨hix, hf⟩ := zx_inv hf
      refine xg_123 hx hb hK hC hk_a41 hix dX7_look_236 ?_
      obtain ⟨x43, hc42, hf⟩ := zb_inv hf
      refine z_ci (z_rS (b := 0) (As := [.int (zi r6 123 a41 (Int32.toNatClampNeg p1))]) (rest := []) ⟨hx, hb, hml, hown, hts⟩ (c_X7_one (l := l) (D := D) (cy := cy) (base := base) (st := st) (K := K) (L := L) (c := c) (r := r6) (o := o) (z := z) (zi r6 123 a41 (Int32.toNatClampNeg p1))  hc42) (va_cwS 1 hts gX7_look_X7_one rfl rfl rfl (by decide +kernel) ⟨Nat.le_of_ble_eq_true rfl, Nat.le_of_ble_eq_true rfl⟩) hG hC rfl hl.1 rfl (lv_room (Nat.le_of_ble_eq_true rfl)) dX7_look_237 ⟨Nat.le_of_ble_eq_true rfl, Nat.le_of_ble_eq_true rfl⟩) hC (fun H locs hC => ?_)
      exact z_iretM hx hb hr hlocks hC hf dX7_look_240
    have hf := zif_f hf h40
    by_cases h44 : p2 = 9
    · have hf := zif_t hf h44
      refine z_name h44.symm ?_
      refine lv_tableIn (off := 220) (tgt := 241) hx hb dX7_look_21 (by decide) (by decide) (by decide) (by decide) ?_
      refine lv_aload_n hx hb dX7_look_241 rfl (lv_at hl 0 rfl) ?_
      refine zg_7_24 hx hb hts hi7 hown hK hC hk_th w14 dX7_look_242 ?_
      obtain ⟨a45, ea45, hk_a45, hf⟩ := zn_inv hf
      refine z_ref ea45 ?_
      refine lv_iload_n hx hb dX7_look_245 rfl (lv_at hl 1 rfl) ?_
      obtain ⟨hix, hf⟩ := zx_inv hf
      refine xg_124 hx hb hK hC hk_a45 hix dX7_look_246 ?_
      obtain ⟨x47, hc46, hf⟩ := zb_inv hf
      refine z_ci (z_rS (b := 0) (As := [.int (zi r6 124 a45 (Int32.toNatClampNeg p1))]) (rest := []) ⟨hx, hb, hml, hown, hts⟩ (c_X7_one (l := l) (D := D) (cy := cy) (base := base) (st := st) (K := K) (L := L) (c := c) (r := r6) (o := o) (z := z) (zi r6 124 a45 (Int32.toNatClampNeg p1))  hc46) (va_cwS 1 hts gX7_look_X7_one rfl rfl rfl (by decide +kernel) ⟨Nat.le_of_ble_eq_true rfl, Nat.le_of_ble_eq_true rfl⟩) hG hC rfl hl.1 rfl (lv_room (Nat.le_of_ble_eq_true rfl)) dX7_look_247 ⟨Nat.le_of_ble_eq_true rfl, Nat.le_of_ble_eq_true rfl⟩) hC (fun H locs hC => ?_)
      exact z_iretM hx hb hr hlocks hC hf dX7_look_250
    have hf := zif_f hf h44
    by_cases h48 : p2 = 10
    · have hf := zif_t hf h48
      refine z_name h48.symm ?_
      refine lv_tableIn (off := 230) (tgt := 251) hx hb dX7_look_21 (by decide) (by decide) (by decide) (by decide) ?_
      refine lv_aload_n hx hb dX7_look_251 rfl (lv_at hl 0 rfl) ?_
      refine zg_7_25 hx hb hts hi7 hown hK hC hk_th w15 dX7_look_252 ?_
      obtain ⟨a49, ea49, hk_a49, hf⟩ := zn_inv hf
      refine z_ref ea49 ?_
      refine lv_iload_n hx hb dX7_look_255 rfl (lv_at hl 1 rfl) ?_
      obtain ⟨hix, hf⟩ := zx_inv hf
      refine xg_125 hx hb hK hC hk_a49 hix dX7_look_256 ?_
      obtain ⟨x51, hc50, hf⟩ := zb_inv hf
      refine z_ci (z_rS (b := 0) (As := [.int (zi r6 125 a49 (Int32.toNatClampNeg p1))]) (rest := []) ⟨hx, hb, hml, hown, hts⟩ (c_X7_one (l := l) (D := D) (cy := cy) (base := base) (st := st) (K := K) (L := L) (c := c) (r := r6) (o := o) (z := z) (zi r6 125 a49 (Int32.toNatClampNeg p1))  hc50) (va_cwS 1 hts gX7_look_X7_one rfl rfl rfl (by decide +kernel) ⟨Nat.le_of_ble_eq_true rfl, Nat.le_of_ble_eq_true rfl⟩) hG hC rfl hl.1 rfl (lv_room (Nat.le_of_ble_eq_true rfl)) dX7_look_257 ⟨Nat.le_of_ble_eq_true rfl, Nat.le_of_ble_eq_true rfl⟩) hC (fun H locs hC => ?_)
      exact z_iretM hx hb hr hlocks hC hf dX7_look_260
    have hf := zif_f hf h48
    by_cases h52 : p2 = 11
    · have hf := zif_t hf h52
      refine z_name h52.symm ?_
      refine lv_tableIn (off := 240) (tgt := 261) hx hb dX7_look_21 (by decide) (by decide) (by decide) (by decide) ?_
      refine lv_aload_n hx hb dX7_look_261 rfl (lv_at hl 0 rfl) ?_
      refine zg_7_31 hx hb hts hi7 hown hK hC hk_th w16 dX7_look_262 ?_
      obtain ⟨a53, ea53, hk_a53, hf⟩ := zn_inv hf
      refine z_ref ea53 ?_
      refine lv_iload_n hx hb dX7_look_265 rfl (lv_at hl 1 rfl) ?_
      obtain ⟨hix, hf⟩ := zx_inv hf
      refine xg_131 hx hb hK hC hk_a53 hix dX7_look_266 ?_
      obtain ⟨x55, hc54, hf⟩ := zb_inv hf
      refine z_ci (z_rS (b := 0) (As := [.int (zi r6 131 a53 (Int32.toNatClampNeg p1))]) (rest := []) ⟨hx, hb, hml, hown, hts⟩ (c_X7_bits (l := l) (D := D) (cy := cy) (base := base) (st := st) (K := K) (L := L) (c := c) (r := r6) (o := o) (z := z) (zi r6 131 a53 (Int32.toNatClampNeg p1))  hc54) (va_cwS 1 hts gX7_look_X7_bits rfl rfl rfl (by decide +kernel) ⟨Nat.le_of_ble_eq_true rfl, Nat.le_of_ble_eq_true rfl⟩) hG hC rfl hl.1 rfl (lv_room (Nat.le_of_ble_eq_true rfl)) dX7_look_267 ⟨Nat.le_of_ble_eq_true rfl, Nat.le_of_ble_eq_true rfl⟩) hC (fun H locs hC => ?_)
      exact z_iretM hx hb hr hlocks hC hf dX7_look_270
    have hf := zif_f hf h52
    by_cases h56 : p2 = 12
    · have hf := zif_t hf h56
      refine z_name h56.symm ?_
      refine lv_tableIn (off := 250) (tgt := 271) hx hb dX7_look_21 (by decide) (by decide) (by decide) (by decide) ?_
      refine lv_aload_n hx hb dX7_look_271 rfl (lv_at hl 0 rfl) ?_
      refine zg_7_33 hx hb hts hi7 hown hK hC hk_th w17 dX7_look_272 ?_
      obtain ⟨a57, ea57, hk_a57, hf⟩ := zn_inv hf
      refine z_ref ea57 ?_
      refine lv_iload_n hx hb dX7_look_275 rfl (lv_at hl 1 rfl) ?_
      obtain ⟨hix, hf⟩ := zx_inv hf
      refine xg_133 hx hb hK hC hk_a57 hix dX7_look_276 ?_
      exact z_iretM hx hb hr hlocks hC hf dX7_look_277
    have hf := zif_f hf h56
    by_cases h58 : p2 = 13
    · have hf := zif_t hf h58
      refine z_name h58.symm ?_
      refine lv_tableIn (off := 257) (tgt := 278) hx hb dX7_look_21 (by decide) (by decide) (by decide) (by decide) ?_
      refine lv_aload_n hx hb dX7_look_278 rfl (lv_at hl 0 rfl) ?_
      refine zg_7_32 hx hb hts hi7 hown hK hC hk_th w18 dX7_look_279 ?_
      obtain ⟨a59, ea59, hk_a59, hf⟩ := zn_inv hf
      refine z_ref ea59 ?_
      refine lv_iload_n hx hb dX7_look_282 rfl (lv_at hl 1 rfl) ?_
      obtain ⟨hix, hf⟩ := zx_inv hf
      refine xg_132 hx hb hK hC hk_a59 hix dX7_look_283 ?_
      obtain ⟨x61, hc60, hf⟩ := zb_inv hf
      refine z_ci (z_rS (b := 0) (As := [.int (zi r6 132 a59 (Int32.toNatClampNeg p1))]) (rest := []) ⟨hx, hb, hml, hown, hts⟩ (c_X7_bits (l := l) (D := D) (cy := cy) (base := base) (st := st) (K := K) (L := L) (c := c) (r := r6) (o := o) (z := z) (zi r6 132 a59 (Int32.toNatClampNeg p1))  hc60) (va_cwS 1 hts gX7_look_X7_bits rfl rfl rfl (by decide +kernel) ⟨Nat.le_of_ble_eq_true rfl, Nat.le_of_ble_eq_true rfl⟩) hG hC rfl hl.1 rfl (lv_room (Nat.le_of_ble_eq_true rfl)) dX7_look_284 ⟨Nat.le_of_ble_eq_true rfl, Nat.le_of_ble_eq_true rfl⟩) hC (fun H locs hC => ?_)
      exact z_iretM hx hb hr hlocks hC hf dX7_look_287
    have hf := zif_f hf h58
    by_cases h62 : p2 = 14
    · have hf := zif_t hf h62
      refine z_name h62.symm ?_
      refine lv_tableIn (off := 267) (tgt := 288) hx hb dX7_look_21 (by decide) (by decide) (by decide) (by decide) ?_
      refine lv_aload_n hx hb dX7_look_288 rfl (lv_at hl 0 rfl) ?_
      refine zg_7_18 hx hb hts hi7 hown hK hC hk_th w19 dX7_look_289 ?_
      obtain ⟨a63, ea63, hk_a63, hf⟩ := zn_inv hf
      refine z_ref ea63 ?_
      refine lv_iload_n hx hb dX7_look_292 rfl (lv_at hl 1 rfl) ?_
      obtain ⟨hix, hf⟩ := zx_inv hf
      refine xg_118 hx hb hK hC hk_a63 hix dX7_look_293 ?_
      exact z_iretM hx hb hr hlocks hC hf dX7_look_294
    have hf := zif_f hf h62
    by_cases h64 : p2 = 15
    · have hf := zif_t hf h64
      refine z_name h64.symm ?_
      refine lv_tableIn (off := 274) (tgt := 295) hx hb dX7_look_21 (by decide) (by decide) (by decide) (by decide) ?_
      refine lv_aload_n hx hb dX7_look_295 rfl (lv_at hl 0 rfl) ?_
      refine zg_7_19 hx hb hts hi7 hown hK hC hk_th w20 dX7_look_296 ?_
      obtain ⟨a65, ea65, hk_a65, hf⟩ := zn_inv hf
      refine z_ref ea65 ?_
      refine lv_iload_n hx hb dX7_look_299 rfl (lv_at hl 1 rfl) ?_
      obtain ⟨hix, hf⟩ := zx_inv hf
      refine xg_119 hx hb hK hC hk_a65 hix dX7_look_300 ?_
      obtain ⟨x67, hc66, hf⟩ := zb_inv hf
      refine z_ci (z_rS (b := 0) (As := [.int (zi r6 119 a65 (Int32.toNatClampNeg p1))]) (rest := []) ⟨hx, hb, hml, hown, hts⟩ (c_X7_one (l := l) (D := D) (cy := cy) (base := base) (st := st) (K := K) (L := L) (c := c) (r := r6) (o := o) (z := z) (zi r6 119 a65 (Int32.toNatClampNeg p1))  hc66) (va_cwS 1 hts gX7_look_X7_one rfl rfl rfl (by decide +kernel) ⟨Nat.le_of_ble_eq_true rfl, Nat.le_of_ble_eq_true rfl⟩) hG hC rfl hl.1 rfl (lv_room (Nat.le_of_ble_eq_true rfl)) dX7_look_301 ⟨Nat.le_of_ble_eq_true rfl, Nat.le_of_ble_eq_true rfl⟩) hC (fun H locs hC => ?_)
      exact z_iretM hx hb hr hlocks hC hf dX7_look_304
    have hf := zif_f hf h64
    by_cases h68 : p2 = 16
    · have hf := zif_t hf h68
      refine z_name h68.symm ?_
      refine lv_tableIn (off := 284) (tgt := 305) hx hb dX7_look_21 (by decide) (by decide) (by decide) (by decide) ?_
      refine lv_aload_n hx hb dX7_look_305 rfl (lv_at hl 0 rfl) ?_
      refine zg_7_20 hx hb hts hi7 hown hK hC hk_th w21 dX7_look_306 ?_
      obtain ⟨a69, ea69, hk_a69, hf⟩ := zn_inv hf
      refine z_ref ea69 ?_
      refine lv_iload_n hx hb dX7_look_309 rfl (lv_at hl 1 rfl) ?_
      obtain ⟨hix, hf⟩ := zx_inv hf
      refine xg_120 hx hb hK hC hk_a69 hix dX7_look_310 ?_
      obtain ⟨x71, hc70, hf⟩ := zb_inv hf
      refine z_ci (z_rS (b := 0) (As := [.int (zi r6 120 a69 (Int32.toNatClampNeg p1))]) (rest := []) ⟨hx, hb, hml, hown, hts⟩ (c_X7_one (l := l) (D := D) (cy := cy) (base := base) (st := st) (K := K) (L := L) (c := c) (r := r6) (o := o) (z := z) (zi r6 120 a69 (Int32.toNatClampNeg p1))  hc70) (va_cwS 1 hts gX7_look_X7_one rfl rfl rfl (by decide +kernel) ⟨Nat.le_of_ble_eq_true rfl, Nat.le_of_ble_eq_true rfl⟩) hG hC rfl hl.1 rfl (lv_room (Nat.le_of_ble_eq_true rfl)) dX7_look_311 ⟨Nat.le_of_ble_eq_true rfl, Nat.le_of_ble_eq_true rfl⟩) hC (fun H locs hC => ?_)
      exact z_iretM hx hb hr hlocks hC hf dX7_look_314
    have hf := zif_f hf h68
    refine lv_tableOut (tgt := 315) hx hb dX7_look_21 (by have q0 := z_ne (k := 0) (by decide) h7; have q1 := z_ne (k := 1) (by decide) h9; have q2 := z_ne (k := 2) (by decide) h11; have q3 := z_ne (k := 3) (by decide) h13; have q4 := z_ne (k := 4) (by decide) h15; have q5 := z_ne (k := 5) (by decide) h20; have q6 := z_ne (k := 6) (by decide) h25; have q7 := z_ne (k := 7) (by decide) h29; have q8 := z_ne (k := 8) (by decide) h40; have q9 := z_ne (k := 9) (by decide) h44; have q10 := z_ne (k := 10) (by decide) h48; have q11 := z_ne (k := 11) (by decide) h52; have q12 := z_ne (k := 12) (by decide) h56; have q13 := z_ne (k := 13) (by decide) h58; have q14 := z_ne (k := 14) (by decide) h62; have q15 := z_ne (k := 15) (by decide) h64; have q16 := z_ne (k := 16) (by decide) h68; omega) (by decide) ?_
    refine lv_aload_n hx hb dX7_look_315 rfl (lv_at hl 0 rfl) ?_
    refine lv_iconst (v := 2) hx hb dX7_look_316 (by decide) ?_
    obtain ⟨r72, er72, hf⟩ := zlet_inv hf
    refine zp_7_0 hx hb hts hi7 hown hK hC hk_th w0 er72 dX7_look_317 (fun H locs hC => ?_)
    refine lv_iconst (v := 0) hx hb dX7_look_320 (by decide) ?_
    exact z_iretM hx hb hr hlocks hC hf dX7_look_321
  · have hf := zif_f hf h73
    refine lv_iconst (v := 0) hx hb dX7_look_18 (by decide) ?_
    exact z_iretM hx hb hr hlocks hC hf dX7_look_19
def f_X7_owed (K : Nat → Nat) (z : Nat) (r : zS) (th : Nat) (p1 : Int32) : Option (Int64 × zS) :=
  zlet (zui r 0 th 0 0) fun r1 => zb (f_X7_noTrader K z r1 th p1) fun x3 => zb2 (f_X7_throwsIf K z r1 th x3 1) fun x5 r6 => (if x5 = 0 then zn K (zr r6 34 th 0) 134 fun a7 => zx p1 200 <| some ((zl r6 134 a7 (Int32.toNatClampNeg p1)), r6) else some (0, r6))
set_option maxRecDepth 100000 in
set_option maxHeartbeats 4000000 in
theorem c_X7_owed {l : Launch} {D : va_G} {cy : Nat → ClassId} {base : Nat} {st : Nat → Nat} {K : Nat → Nat} {L : List Nat} {c r : zS} {o : Int64} {z : Nat} (th : Nat) (p1 : Int32) {rv : Int64} {rf : zS}  (hk_th : K th = 7) (hf : f_X7_owed K z r th p1 = some (rv, rf)) : Met l yX7_owed wsX7_owed ({ frames := 1, cells := 0, slots := 0, locals := 22 }) (va_Pc [.ref th, .int p1] (zGW zts0 zns0 D cy base st K L (c, r, o))) (va_Ql (fun (rr : Int64) (_ : Unit) => rr = rv) (fun _ => zB D cy base K L (c, rf, o)) (zA base)) 0 0 (zA base) := by
  refine Met.ofW (cc := cX7_owed) (maxL := 2) (ret := (some .long)) (by decide) rfl ?_
  intro p e s m args below meth cd s₁ B hml hv
  obtain ⟨rfl, hG⟩ := hv
  have hx := B.exec
  have hb := B.bytes
  have hr := B.returns
  have hts := atoms_spec (ws := wsX7_owed) B.pre
  have hown : s.vm.findClass RX7 = some m.cls := findClass_of_methodNamed B.named
  have hlocks := B.notSynchronized
  have hC := hG.enter
  have hK := hG.2.2.2.1
  have hi7 : ∀ w ∈ wsX70, w ∈ wsX7_owed := by decide +kernel
  have w0 := hts (.fieldLink RX7 127 "MarketSquareModel" "thrown" "I") (by decide +kernel)
  have w1 := hts (.fieldLink RX7 108 "MarketSquareModel" "owed" "[J") (by decide +kernel)
  have hl := lv_entry ([.ref th, .int p1]) (n := 2) (Nat.le_of_ble_eq_true rfl)
  rw [lg_entry_eq]
  generalize (lg_sl ([.ref th, .int p1]) ++ List.replicate (2 - (lg_sl ([.ref th, .int p1])).length) Slot.unset).toArray = ls at hl ⊢
  have hl : lv_has ls 2 [(0, .ref th), (1, .int p1)] := hl
  unfold f_X7_owed at hf
  refine lv_aload_n hx hb dX7_owed_0 rfl (lv_at hl 0 rfl) ?_
  refine lv_iconst (v := 0) hx hb dX7_owed_1 (by decide) ?_
  obtain ⟨r1, er1, hf⟩ := zlet_inv hf
  refine zp_7_0 hx hb hts hi7 hown hK hC hk_th w0 er1 dX7_owed_2 (fun H locs hC => ?_)
  refine lv_aload_n hx hb dX7_owed_5 rfl (lv_at hl 0 rfl) ?_
  refine lv_aload_n hx hb dX7_owed_6 rfl (lv_at hl 0 rfl) ?_
  refine lv_iload_n hx hb dX7_owed_7 rfl (lv_at hl 1 rfl) ?_
  obtain ⟨x3, hc2, hf⟩ := zb_inv hf
  refine z_ci (z_rV (As := [.int p1]) (rest := [.ref th]) ⟨hx, hb, hml, hown, hts⟩ (c_X7_noTrader (l := l) (D := D) (cy := cy) (base := base) (st := st) (K := K) (L := L) (c := c) (r := r1) (o := o) (z := z) th p1 hk_th hc2) (cwV 1 hts gX7_owed_X7_noTrader rfl rfl rfl (by decide +kernel) ⟨Nat.le_of_ble_eq_true rfl, Nat.le_of_ble_eq_true rfl⟩) hG hC (zC.recv (ci := 7) (fs := _) hK hC (by rw [hk_th]; decide) (by rw [hk_th]; exact zc_7 cy _ _) rfl) rfl hl.1 rfl (lv_room (Nat.le_of_ble_eq_true rfl)) dX7_owed_8 ⟨Nat.le_of_ble_eq_true rfl, Nat.le_of_ble_eq_true rfl⟩) hC (fun H locs hC => ?_)
  refine lv_iconst (v := 1) hx hb dX7_owed_11 (by decide) ?_
  obtain ⟨x5, r6, hc4, hf⟩ := zb2_inv hf
  refine z_ci (z_rV (As := [.int x3, .int 1]) (rest := []) ⟨hx, hb, hml, hown, hts⟩ (c_X7_throwsIf (l := l) (D := D) (cy := cy) (base := base) (st := st) (K := K) (L := L) (c := c) (r := r1) (o := o) (z := z) th x3 1 hk_th hc4) (cwV 2 hts gX7_owed_X7_throwsIf rfl rfl rfl (by decide +kernel) ⟨Nat.le_of_ble_eq_true rfl, Nat.le_of_ble_eq_true rfl⟩) hG hC (zC.recv (ci := 7) (fs := _) hK hC (by rw [hk_th]; decide) (by rw [hk_th]; exact zc_7 cy _ _) rfl) rfl hl.1 rfl (lv_room (Nat.le_of_ble_eq_true rfl)) dX7_owed_12 ⟨Nat.le_of_ble_eq_true rfl, Nat.le_of_ble_eq_true rfl⟩) hC (fun H locs hC => ?_)
  refine lv_if_eq (tgt := 22) hx hb dX7_owed_15 (by decide) (fun h8 => ?_) (fun h8 => ?_)
  · have hf := zif_t hf h8
    refine lv_aload_n hx hb dX7_owed_22 rfl (lv_at hl 0 rfl) ?_
    refine zg_7_34 hx hb hts hi7 hown hK hC hk_th w1 dX7_owed_23 ?_
    obtain ⟨a7, ea7, hk_a7, hf⟩ := zn_inv hf
    refine z_ref ea7 ?_
    refine lv_iload_n hx hb dX7_owed_26 rfl (lv_at hl 1 rfl) ?_
    obtain ⟨hix, hf⟩ := zx_inv hf
    refine xg_134 hx hb hK hC hk_a7 hix dX7_owed_27 ?_
    exact z_lretM hx hb hr hlocks hC hf dX7_owed_28
  · have hf := zif_f hf h8
    refine lv_lconst (v := 0) hx hb dX7_owed_18 (by decide) ?_
    refine lv_goto (tgt := 28) hx hb dX7_owed_19 (by decide) ?_
    exact z_lretM hx hb hr hlocks hC hf dX7_owed_28
def f_X7_stall_10 (K : Nat → Nat) (z : Nat) (th : Nat) (p1 : Int32) (p2 : Int32) : Nat → zS → Int32 → Int32 → Option (Int32 × zS)
  | 0, _, _, _ => none
  | n + 1, rA, v3, v4 =>
    (if (zi rA 35 th 0) ≤ v4 then some (v3, rA) else zn K (zr rA 27 th 0) 127 fun a2 => zx v4 200 <| (if (zi rA 127 a2 (Int32.toNatClampNeg v4)) = 0 then zlet (v4 + 1) fun x3 => f_X7_stall_10 K z th p1 p2 n rA v3 x3 else zn K (zr rA 28 th 0) 128 fun a4 => zx v4 200 <| (if (zi rA 128 a4 (Int32.toNatClampNeg v4)) = p1 then zn K (zr rA 29 th 0) 129 fun a6 => zx v4 200 <| (if p2 < (zi rA 129 a6 (Int32.toNatClampNeg v4)) then zlet (v4 + 1) fun x7 => f_X7_stall_10 K z th p1 p2 n rA v3 x7 else zb (f_X7_endOf K z rA th v4) fun x9 => (if x9 ≤ p2 then zlet (v4 + 1) fun x10 => f_X7_stall_10 K z th p1 p2 n rA v3 x10 else zlet (v4 + 1) fun x11 => f_X7_stall_10 K z th p1 p2 n rA v4 x11)) else zlet (v4 + 1) fun x5 => f_X7_stall_10 K z th p1 p2 n rA v3 x5)))
def f_X7_stall (K : Nat → Nat) (z : Nat) (r : zS) (th : Nat) (p1 : Int32) (p2 : Int32) : Option (Int32 × zS) :=
  zlet (zui r 0 th 0 0) fun r1 => f_X7_stall_10 K z th p1 p2 z r1 (-1) 0
set_option maxRecDepth 100000 in
set_option maxHeartbeats 4000000 in
theorem c_X7_stall {l : Launch} {D : va_G} {cy : Nat → ClassId} {base : Nat} {st : Nat → Nat} {K : Nat → Nat} {L : List Nat} {c r : zS} {o : Int64} {z : Nat} (th : Nat) (p1 : Int32) (p2 : Int32) {rv : Int32} {rf : zS}  (hk_th : K th = 7) (hf : f_X7_stall K z r th p1 p2 = some (rv, rf)) : Met l yX7_stall wsX7_stall ({ frames := 1, cells := 0, slots := 0, locals := 21 }) (va_Pc [.ref th, .int p1, .int p2] (zGW zts0 zns0 D cy base st K L (c, r, o))) (va_Qi (fun (rr : Int32) (_ : Unit) => rr = rv) (fun _ => zB D cy base K L (c, rf, o)) (zA base)) 0 0 (zA base) := by
  refine Met.ofW (cc := cX7_stall) (maxL := 5) (ret := (some .int)) (by decide) rfl ?_
  intro p e s m args below meth cd s₁ B hml hv
  obtain ⟨rfl, hG⟩ := hv
  have hx := B.exec
  have hb := B.bytes
  have hr := B.returns
  have hts := atoms_spec (ws := wsX7_stall) B.pre
  have hown : s.vm.findClass RX7 = some m.cls := findClass_of_methodNamed B.named
  have hlocks := B.notSynchronized
  have hC := hG.enter
  have hK := hG.2.2.2.1
  have hi7 : ∀ w ∈ wsX70, w ∈ wsX7_stall := by decide +kernel
  have w0 := hts (.fieldLink RX7 127 "MarketSquareModel" "thrown" "I") (by decide +kernel)
  have w1 := hts (.fieldLink RX7 131 "MarketSquareModel" "traders" "I") (by decide +kernel)
  have w2 := hts (.fieldLink RX7 87 "MarketSquareModel" "stands" "[Z") (by decide +kernel)
  have w3 := hts (.fieldLink RX7 90 "MarketSquareModel" "stallRow" "[I") (by decide +kernel)
  have w4 := hts (.fieldLink RX7 93 "MarketSquareModel" "stallPlace" "[I") (by decide +kernel)
  have hl := lv_entry ([.ref th, .int p1, .int p2]) (n := 5) (Nat.le_of_ble_eq_true rfl)
  rw [lg_entry_eq]
  generalize (lg_sl ([.ref th, .int p1, .int p2]) ++ List.replicate (5 - (lg_sl ([.ref th, .int p1, .int p2])).length) Slot.unset).toArray = ls at hl ⊢
  have hl : lv_has ls 5 [(0, .ref th), (1, .int p1), (2, .int p2)] := hl
  have L10 : ∀ (n10 : Nat) (rA : zS) (H : Heap) (locs : List Loc) (ls : Array Slot) (v3 : Int32) (v4 : Int32), zC D cy base K L (c, rA, o) s.heap H locs → lv_has ls 5 [(0, .ref th), (1, .int p1), (2, .int p2), (3, .int v3), (4, .int v4)] → f_X7_stall_10 K z th p1 p2 n10 rA v3 v4 = some (rv, rf) → W p l e (headSpec wsX7_stall ({ frames := 1, cells := 0, slots := 0, locals := 21 })).room s m ([.ref th, .int p1, .int p2] : List Value).toArray below meth cd H locs 0 0 (MQ below (va_Qi (fun (rr : Int32) (_ : Unit) => rr = rv) (fun _ => zB D cy base K L (c, rf, o)) (zA base)) ([.ref th, .int p1, .int p2] : List Value).toArray s 0 0 (zA base)) (F0 m 10 ls []) := by
    intro n10
    induction n10 with
    | zero => intro rA H locs ls v3 v4 hC hl hf; rw [f_X7_stall_10] at hf; cases hf
    | succ n10 ih10 =>
      intro rA H locs ls v3 v4 hC hl hf
      rw [f_X7_stall_10] at hf
      refine lv_iload hx hb dX7_stall_10 (lv_at hl 4 rfl) ?_
      refine lv_aload_n hx hb dX7_stall_12 rfl (lv_at hl 0 rfl) ?_
      refine zg_7_35 hx hb hts hi7 hown hK hC hk_th w1 dX7_stall_13 ?_
      refine lv_icmp_ge (tgt := 70) hx hb dX7_stall_16 (by decide) (fun h16 => ?_) (fun h16 => ?_)
      · have hf := zif_t hf h16
        refine lv_iload_n hx hb dX7_stall_70 rfl (lv_at hl 3 rfl) ?_
        exact z_iretM hx hb hr hlocks hC hf dX7_stall_71
      · have hf := zif_f hf h16
        refine lv_aload_n hx hb dX7_stall_19 rfl (lv_at hl 0 rfl) ?_
        refine zg_7_27 hx hb hts hi7 hown hK hC hk_th w2 dX7_stall_20 ?_
        obtain ⟨a2, ea2, hk_a2, hf⟩ := zn_inv hf
        refine z_ref ea2 ?_
        refine lv_iload hx hb dX7_stall_23 (lv_at hl 4 rfl) ?_
        obtain ⟨hix, hf⟩ := zx_inv hf
        refine xg_127 hx hb hK hC hk_a2 hix dX7_stall_25 ?_
        refine lv_if_eq (tgt := 64) hx hb dX7_stall_26 (by decide) (fun h15 => ?_) (fun h15 => ?_)
        · have hf := zif_t hf h15
          obtain ⟨x3, ex3, hf⟩ := zlet_inv hf
          refine lv_iinc (v := x3) (lv' := [(4, .int x3), (0, .ref th), (1, .int p1), (2, .int p2), (3, .int v3)]) hx hb dX7_stall_64 hl (k := 4) rfl (by rw [ex3]; rfl) (by decide) rfl (fun ls hl => ?_)
          refine lv_goto (tgt := 10) hx hb dX7_stall_67 (by decide) ?_
          exact ih10 _ _ _ _ v3 x3 hC (lv_sub hl [1, 2, 3, 4, 0] rfl) hf
        · have hf := zif_f hf h15
          refine lv_aload_n hx hb dX7_stall_29 rfl (lv_at hl 0 rfl) ?_
          refine zg_7_28 hx hb hts hi7 hown hK hC hk_th w3 dX7_stall_30 ?_
          obtain ⟨a4, ea4, hk_a4, hf⟩ := zn_inv hf
          refine z_ref ea4 ?_
          refine lv_iload hx hb dX7_stall_33 (lv_at hl 4 rfl) ?_
          obtain ⟨hix, hf⟩ := zx_inv hf
          refine xg_128 hx hb hK hC hk_a4 hix dX7_stall_35 ?_
          refine lv_iload_n hx hb dX7_stall_36 rfl (lv_at hl 1 rfl) ?_
          refine lv_icmp_ne (tgt := 64) hx hb dX7_stall_37 (by decide) (fun h14 => ?_) (fun h14 => ?_)
          · have hf := zif_f hf h14
            obtain ⟨x5, ex5, hf⟩ := zlet_inv hf
            refine lv_iinc (v := x5) (lv' := [(4, .int x5), (0, .ref th), (1, .int p1), (2, .int p2), (3, .int v3)]) hx hb dX7_stall_64 hl (k := 4) rfl (by rw [ex5]; rfl) (by decide) rfl (fun ls hl => ?_)
            refine lv_goto (tgt := 10) hx hb dX7_stall_67 (by decide) ?_
            exact ih10 _ _ _ _ v3 x5 hC (lv_sub hl [1, 2, 3, 4, 0] rfl) hf
          · have hf := zif_t hf h14
            refine lv_aload_n hx hb dX7_stall_40 rfl (lv_at hl 0 rfl) ?_
            refine zg_7_29 hx hb hts hi7 hown hK hC hk_th w4 dX7_stall_41 ?_
            obtain ⟨a6, ea6, hk_a6, hf⟩ := zn_inv hf
            refine z_ref ea6 ?_
            refine lv_iload hx hb dX7_stall_44 (lv_at hl 4 rfl) ?_
            obtain ⟨hix, hf⟩ := zx_inv hf
            refine xg_129 hx hb hK hC hk_a6 hix dX7_stall_46 ?_
            refine lv_iload_n hx hb dX7_stall_47 rfl (lv_at hl 2 rfl) ?_
            refine lv_icmp_gt (tgt := 64) hx hb dX7_stall_48 (by decide) (fun h13 => ?_) (fun h13 => ?_)
            · have hf := zif_t hf h13
              obtain ⟨x7, ex7, hf⟩ := zlet_inv hf
              refine lv_iinc (v := x7) (lv' := [(4, .int x7), (0, .ref th), (1, .int p1), (2, .int p2), (3, .int v3)]) hx hb dX7_stall_64 hl (k := 4) rfl (by rw [ex7]; rfl) (by decide) rfl (fun ls hl => ?_)
              refine lv_goto (tgt := 10) hx hb dX7_stall_67 (by decide) ?_
              exact ih10 _ _ _ _ v3 x7 hC (lv_sub hl [1, 2, 3, 4, 0] rfl) hf
            · have hf := zif_f hf h13
              refine lv_aload_n hx hb dX7_stall_51 rfl (lv_at hl 0 rfl) ?_
              refine lv_iload hx hb dX7_stall_52 (lv_at hl 4 rfl) ?_
              obtain ⟨x9, hc8, hf⟩ := zb_inv hf
              refine z_ci (z_rV (As := [.int v4]) (rest := []) ⟨hx, hb, hml, hown, hts⟩ (c_X7_endOf (l := l) (D := D) (cy := cy) (base := base) (st := st) (K := K) (L := L) (c := c) (r := rA) (o := o) (z := z) th v4 hk_th hc8) (cwV 1 hts gX7_stall_X7_endOf rfl rfl rfl (by decide +kernel) ⟨Nat.le_of_ble_eq_true rfl, Nat.le_of_ble_eq_true rfl⟩) hG hC (zC.recv (ci := 7) (fs := _) hK hC (by rw [hk_th]; decide) (by rw [hk_th]; exact zc_7 cy _ _) rfl) rfl hl.1 rfl (lv_room (Nat.le_of_ble_eq_true rfl)) dX7_stall_54 ⟨Nat.le_of_ble_eq_true rfl, Nat.le_of_ble_eq_true rfl⟩) hC (fun H locs hC => ?_)
              refine lv_iload_n hx hb dX7_stall_57 rfl (lv_at hl 2 rfl) ?_
              refine lv_icmp_le (tgt := 64) hx hb dX7_stall_58 (by decide) (fun h12 => ?_) (fun h12 => ?_)
              · have hf := zif_t hf h12
                obtain ⟨x10, ex10, hf⟩ := zlet_inv hf
                refine lv_iinc (v := x10) (lv' := [(4, .int x10), (0, .ref th), (1, .int p1), (2, .int p2), (3, .int v3)]) hx hb dX7_stall_64 hl (k := 4) rfl (by rw [ex10]; rfl) (by decide) rfl (fun ls hl => ?_)
                refine lv_goto (tgt := 10) hx hb dX7_stall_67 (by decide) ?_
                exact ih10 _ _ _ _ v3 x10 hC (lv_sub hl [1, 2, 3, 4, 0] rfl) hf
              · have hf := zif_f hf h12
                refine lv_iload hx hb dX7_stall_61 (lv_at hl 4 rfl) ?_
                refine lv_istore_n (lv' := [(3, .int v4), (0, .ref th), (1, .int p1), (2, .int p2), (4, .int v4)]) hx hb dX7_stall_63 rfl hl (by decide) rfl (fun ls hl => ?_)
                obtain ⟨x11, ex11, hf⟩ := zlet_inv hf
                refine lv_iinc (v := x11) (lv' := [(4, .int x11), (3, .int v4), (0, .ref th), (1, .int p1), (2, .int p2)]) hx hb dX7_stall_64 hl (k := 4) rfl (by rw [ex11]; rfl) (by decide) rfl (fun ls hl => ?_)
                refine lv_goto (tgt := 10) hx hb dX7_stall_67 (by decide) ?_
                exact ih10 _ _ _ _ v4 x11 hC (lv_sub hl [2, 3, 4, 1, 0] rfl) hf
  unfold f_X7_stall at hf
  refine lv_aload_n hx hb dX7_stall_0 rfl (lv_at hl 0 rfl) ?_
  refine lv_iconst (v := 0) hx hb dX7_stall_1 (by decide) ?_
  obtain ⟨r1, er1, hf⟩ := zlet_inv hf
  refine zp_7_0 hx hb hts hi7 hown hK hC hk_th w0 er1 dX7_stall_2 (fun H locs hC => ?_)
  refine lv_iconst (v := (-1)) hx hb dX7_stall_5 (by decide) ?_
  refine lv_istore_n (lv' := [(3, .int (-1)), (0, .ref th), (1, .int p1), (2, .int p2)]) hx hb dX7_stall_6 rfl hl (by decide) rfl (fun ls hl => ?_)
  refine lv_iconst (v := 0) hx hb dX7_stall_7 (by decide) ?_
  refine lv_istore (lv' := [(4, .int 0), (3, .int (-1)), (0, .ref th), (1, .int p1), (2, .int p2)]) hx hb dX7_stall_8 hl (by decide) rfl (fun ls hl => ?_)
  exact L10 z _ _ _ _ (-1) 0 hC (lv_sub hl [2, 3, 4, 1, 0] rfl) hf
def f_X7_square_86 (K : Nat → Nat) (z : Nat) (th : Nat) (p1 : Int32) (p2 : Int32) : Nat → zS → Int32 → Int32 → Option (Int32 × zS)
  | 0, _, _, _ => none
  | n + 1, rA, v3, v4 =>
    (if (zi rA 35 th 0) ≤ v4 then some (v3, rA) else (if p2 = 4 then zn K (zr rA 27 th 0) 127 fun a5 => zx v4 200 <| (if (zi rA 127 a5 (Int32.toNatClampNeg v4)) = 0 then zlet (v3 + 0) fun x6 => zlet (v4 + 1) fun x7 => f_X7_square_86 K z th p1 p2 n rA x6 x7 else zn K (zr rA 28 th 0) 128 fun a8 => zx v4 200 <| (if (zi rA 128 a8 (Int32.toNatClampNeg v4)) = p1 then zn K (zr rA 10 th 0) 110 fun a11 => zx v4 200 <| zlet (v3 + (zi rA 110 a11 (Int32.toNatClampNeg v4))) fun x12 => zlet (v4 + 1) fun x13 => f_X7_square_86 K z th p1 p2 n rA x12 x13 else zlet (v3 + 0) fun x9 => zlet (v4 + 1) fun x10 => f_X7_square_86 K z th p1 p2 n rA x9 x10)) else some (v3, rA)))
def f_X7_square_39 (K : Nat → Nat) (z : Nat) (th : Nat) (p1 : Int32) (p2 : Int32) : Nat → zS → Int32 → Int32 → Option (Int32 × zS)
  | 0, _, _, _ => none
  | n + 1, rA, v3, v4 =>
    zn K (zr rA 1 th 0) 101 fun a4 => zx p1 40 <| (if (zi rA 101 a4 (Int32.toNatClampNeg p1)) ≤ v4 then f_X7_square_86 K z th p1 p2 z rA v3 0 else (if 4 ≤ p2 then f_X7_square_86 K z th p1 p2 z rA v3 0 else zn K (zr rA 2 th 0) 102 fun a18 => zx ((200 * p1) + v4) 8000 <| zlet (v3 + (((zi rA 102 a18 (Int32.toNatClampNeg ((200 * p1) + v4))) >>> ((p2 - 1) &&& 31)) &&& 1)) fun x19 => zlet (v4 + 1) fun x20 => f_X7_square_39 K z th p1 p2 n rA x19 x20))
def f_X7_square (K : Nat → Nat) (z : Nat) (r : zS) (th : Nat) (p1 : Int32) (p2 : Int32) : Option (Int32 × zS) :=
  zlet (zui r 0 th 0 0) fun r1 => zb (f_X7_noRow K z r1 p1) fun x3 => (if x3 = 0 then (if p2 < 0 then some ((-1), r1) else (if p2 ≤ 4 then (if p2 = 0 then zn K (zr r1 1 th 0) 101 fun a23 => zx p1 40 <| some ((zi r1 101 a23 (Int32.toNatClampNeg p1)), r1) else f_X7_square_39 K z th p1 p2 z r1 0 0) else some ((-1), r1))) else some ((-1), r1))
set_option maxRecDepth 100000 in
set_option maxHeartbeats 4000000 in
theorem c_X7_square {l : Launch} {D : va_G} {cy : Nat → ClassId} {base : Nat} {st : Nat → Nat} {K : Nat → Nat} {L : List Nat} {c r : zS} {o : Int64} {z : Nat} (th : Nat) (p1 : Int32) (p2 : Int32) {rv : Int32} {rf : zS}  (hk_th : K th = 7) (hf : f_X7_square K z r th p1 p2 = some (rv, rf)) : Met l yX7_square wsX7_square ({ frames := 1, cells := 0, slots := 0, locals := 20 }) (va_Pc [.ref th, .int p1, .int p2] (zGW zts0 zns0 D cy base st K L (c, r, o))) (va_Qi (fun (rr : Int32) (_ : Unit) => rr = rv) (fun _ => zB D cy base K L (c, rf, o)) (zA base)) 0 0 (zA base) := by
  refine Met.ofW (cc := cX7_square) (maxL := 5) (ret := (some .int)) (by decide) rfl ?_
  intro p e s m args below meth cd s₁ B hml hv
  obtain ⟨rfl, hG⟩ := hv
  have hx := B.exec
  have hb := B.bytes
  have hr := B.returns
  have hts := atoms_spec (ws := wsX7_square) B.pre
  have hown : s.vm.findClass RX7 = some m.cls := findClass_of_methodNamed B.named
  have hlocks := B.notSynchronized
  have hC := hG.enter
  have hK := hG.2.2.2.1
  have hi7 : ∀ w ∈ wsX70, w ∈ wsX7_square := by decide +kernel
  have w0 := hts (.fieldLink RX7 127 "MarketSquareModel" "thrown" "I") (by decide +kernel)
  have w1 := hts (.fieldLink RX7 9 "MarketSquareModel" "places" "[I") (by decide +kernel)
  have w2 := hts (.fieldLink RX7 131 "MarketSquareModel" "traders" "I") (by decide +kernel)
  have w3 := hts (.fieldLink RX7 87 "MarketSquareModel" "stands" "[Z") (by decide +kernel)
  have w4 := hts (.fieldLink RX7 90 "MarketSquareModel" "stallRow" "[I") (by decide +kernel)
  have w5 := hts (.fieldLink RX7 36 "MarketSquareModel" "front" "[I") (by decide +kernel)
  have w6 := hts (.fieldLink RX7 13 "MarketSquareModel" "marks" "[B") (by decide +kernel)
  have hl := lv_entry ([.ref th, .int p1, .int p2]) (n := 5) (Nat.le_of_ble_eq_true rfl)
  rw [lg_entry_eq]
  generalize (lg_sl ([.ref th, .int p1, .int p2]) ++ List.replicate (5 - (lg_sl ([.ref th, .int p1, .int p2])).length) Slot.unset).toArray = ls at hl ⊢
  have hl : lv_has ls 5 [(0, .ref th), (1, .int p1), (2, .int p2)] := hl
  have L86 : ∀ (n86 : Nat) (rA : zS) (H : Heap) (locs : List Loc) (ls : Array Slot) (v3 : Int32) (v4 : Int32), zC D cy base K L (c, rA, o) s.heap H locs → lv_has ls 5 [(0, .ref th), (1, .int p1), (2, .int p2), (3, .int v3), (4, .int v4)] → f_X7_square_86 K z th p1 p2 n86 rA v3 v4 = some (rv, rf) → W p l e (headSpec wsX7_square ({ frames := 1, cells := 0, slots := 0, locals := 20 })).room s m ([.ref th, .int p1, .int p2] : List Value).toArray below meth cd H locs 0 0 (MQ below (va_Qi (fun (rr : Int32) (_ : Unit) => rr = rv) (fun _ => zB D cy base K L (c, rf, o)) (zA base)) ([.ref th, .int p1, .int p2] : List Value).toArray s 0 0 (zA base)) (F0 m 86 ls []) := by
    intro n86
    induction n86 with
    | zero => intro rA H locs ls v3 v4 hC hl hf; rw [f_X7_square_86] at hf; cases hf
    | succ n86 ih86 =>
      intro rA H locs ls v3 v4 hC hl hf
      rw [f_X7_square_86] at hf
      refine lv_iload hx hb dX7_square_86 (lv_at hl 4 rfl) ?_
      refine lv_aload_n hx hb dX7_square_88 rfl (lv_at hl 0 rfl) ?_
      refine zg_7_35 hx hb hts hi7 hown hK hC hk_th w2 dX7_square_89 ?_
      refine lv_icmp_ge (tgt := 141) hx hb dX7_square_92 (by decide) (fun h17 => ?_) (fun h17 => ?_)
      · have hf := zif_t hf h17
        refine lv_iload_n hx hb dX7_square_141 rfl (lv_at hl 3 rfl) ?_
        exact z_iretM hx hb hr hlocks hC hf dX7_square_142
      · have hf := zif_f hf h17
        refine lv_iload_n hx hb dX7_square_95 rfl (lv_at hl 2 rfl) ?_
        refine lv_iconst (v := 4) hx hb dX7_square_96 (by decide) ?_
        refine lv_icmp_ne (tgt := 141) hx hb dX7_square_97 (by decide) (fun h16 => ?_) (fun h16 => ?_)
        · have hf := zif_f hf h16
          refine lv_iload_n hx hb dX7_square_141 rfl (lv_at hl 3 rfl) ?_
          exact z_iretM hx hb hr hlocks hC hf dX7_square_142
        · have hf := zif_t hf h16
          refine lv_iload_n hx hb dX7_square_100 rfl (lv_at hl 3 rfl) ?_
          refine lv_aload_n hx hb dX7_square_101 rfl (lv_at hl 0 rfl) ?_
          refine zg_7_27 hx hb hts hi7 hown hK hC hk_th w3 dX7_square_102 ?_
          obtain ⟨a5, ea5, hk_a5, hf⟩ := zn_inv hf
          refine z_ref ea5 ?_
          refine lv_iload hx hb dX7_square_105 (lv_at hl 4 rfl) ?_
          obtain ⟨hix, hf⟩ := zx_inv hf
          refine xg_127 hx hb hK hC hk_a5 hix dX7_square_107 ?_
          refine lv_if_eq (tgt := 132) hx hb dX7_square_108 (by decide) (fun h15 => ?_) (fun h15 => ?_)
          · have hf := zif_t hf h15
            refine lv_iconst (v := 0) hx hb dX7_square_132 (by decide) ?_
            refine lv_iadd hx hb dX7_square_133 ?_
            obtain ⟨x6, ex6, hf⟩ := zlet_inv hf
            refine z_name ex6 ?_
            refine lv_istore_n (lv' := [(3, .int x6), (0, .ref th), (1, .int p1), (2, .int p2), (4, .int v4)]) hx hb dX7_square_134 rfl hl (by decide) rfl (fun ls hl => ?_)
            obtain ⟨x7, ex7, hf⟩ := zlet_inv hf
            refine lv_iinc (v := x7) (lv' := [(4, .int x7), (3, .int x6), (0, .ref th), (1, .int p1), (2, .int p2)]) hx hb dX7_square_135 hl (k := 4) rfl (by rw [ex7]; rfl) (by decide) rfl (fun ls hl => ?_)
            refine lv_goto (tgt := 86) hx hb dX7_square_138 (by decide) ?_
            exact ih86 _ _ _ _ x6 x7 hC (lv_sub hl [2, 3, 4, 1, 0] rfl) hf
          · have hf := zif_f hf h15
            refine lv_aload_n hx hb dX7_square_111 rfl (lv_at hl 0 rfl) ?_
            refine zg_7_28 hx hb hts hi7 hown hK hC hk_th w4 dX7_square_112 ?_
            obtain ⟨a8, ea8, hk_a8, hf⟩ := zn_inv hf
            refine z_ref ea8 ?_
            refine lv_iload hx hb dX7_square_115 (lv_at hl 4 rfl) ?_
            obtain ⟨hix, hf⟩ := zx_inv hf
            refine xg_128 hx hb hK hC hk_a8 hix dX7_square_117 ?_
            refine lv_iload_n hx hb dX7_square_118 rfl (lv_at hl 1 rfl) ?_
            refine lv_icmp_ne (tgt := 132) hx hb dX7_square_119 (by decide) (fun h14 => ?_) (fun h14 => ?_)
            · have hf := zif_f hf h14
              refine lv_iconst (v := 0) hx hb dX7_square_132 (by decide) ?_
              refine lv_iadd hx hb dX7_square_133 ?_
              obtain ⟨x9, ex9, hf⟩ := zlet_inv hf
              refine z_name ex9 ?_
              refine lv_istore_n (lv' := [(3, .int x9), (0, .ref th), (1, .int p1), (2, .int p2), (4, .int v4)]) hx hb dX7_square_134 rfl hl (by decide) rfl (fun ls hl => ?_)
              obtain ⟨x10, ex10, hf⟩ := zlet_inv hf
              refine lv_iinc (v := x10) (lv' := [(4, .int x10), (3, .int x9), (0, .ref th), (1, .int p1), (2, .int p2)]) hx hb dX7_square_135 hl (k := 4) rfl (by rw [ex10]; rfl) (by decide) rfl (fun ls hl => ?_)
              refine lv_goto (tgt := 86) hx hb dX7_square_138 (by decide) ?_
              exact ih86 _ _ _ _ x9 x10 hC (lv_sub hl [2, 3, 4, 1, 0] rfl) hf
            · have hf := zif_t hf h14
              refine lv_aload_n hx hb dX7_square_122 rfl (lv_at hl 0 rfl) ?_
              refine zg_7_10 hx hb hts hi7 hown hK hC hk_th w5 dX7_square_123 ?_
              obtain ⟨a11, ea11, hk_a11, hf⟩ := zn_inv hf
              refine z_ref ea11 ?_
              refine lv_iload hx hb dX7_square_126 (lv_at hl 4 rfl) ?_
              obtain ⟨hix, hf⟩ := zx_inv hf
              refine xg_110 hx hb hK hC hk_a11 hix dX7_square_128 ?_
              refine lv_goto (tgt := 133) hx hb dX7_square_129 (by decide) ?_
              refine lv_iadd hx hb dX7_square_133 ?_
              obtain ⟨x12, ex12, hf⟩ := zlet_inv hf
              refine z_name ex12 ?_
              refine lv_istore_n (lv' := [(3, .int x12), (0, .ref th), (1, .int p1), (2, .int p2), (4, .int v4)]) hx hb dX7_square_134 rfl hl (by decide) rfl (fun ls hl => ?_)
              obtain ⟨x13, ex13, hf⟩ := zlet_inv hf
              refine lv_iinc (v := x13) (lv' := [(4, .int x13), (3, .int x12), (0, .ref th), (1, .int p1), (2, .int p2)]) hx hb dX7_square_135 hl (k := 4) rfl (by rw [ex13]; rfl) (by decide) rfl (fun ls hl => ?_)
              refine lv_goto (tgt := 86) hx hb dX7_square_138 (by decide) ?_
              exact ih86 _ _ _ _ x12 x13 hC (lv_sub hl [2, 3, 4, 1, 0] rfl) hf
  have L39 : ∀ (n39 : Nat) (rA : zS) (H : Heap) (locs : List Loc) (ls : Array Slot) (v3 : Int32) (v4 : Int32), zC D cy base K L (c, rA, o) s.heap H locs → lv_has ls 5 [(0, .ref th), (1, .int p1), (2, .int p2), (3, .int v3), (4, .int v4)] → f_X7_square_39 K z th p1 p2 n39 rA v3 v4 = some (rv, rf) → W p l e (headSpec wsX7_square ({ frames := 1, cells := 0, slots := 0, locals := 20 })).room s m ([.ref th, .int p1, .int p2] : List Value).toArray below meth cd H locs 0 0 (MQ below (va_Qi (fun (rr : Int32) (_ : Unit) => rr = rv) (fun _ => zB D cy base K L (c, rf, o)) (zA base)) ([.ref th, .int p1, .int p2] : List Value).toArray s 0 0 (zA base)) (F0 m 39 ls []) := by
    intro n39
    induction n39 with
    | zero => intro rA H locs ls v3 v4 hC hl hf; rw [f_X7_square_39] at hf; cases hf
    | succ n39 ih39 =>
      intro rA H locs ls v3 v4 hC hl hf
      rw [f_X7_square_39] at hf
      refine lv_iload hx hb dX7_square_39 (lv_at hl 4 rfl) ?_
      refine lv_aload_n hx hb dX7_square_41 rfl (lv_at hl 0 rfl) ?_
      refine zg_7_1 hx hb hts hi7 hown hK hC hk_th w1 dX7_square_42 ?_
      obtain ⟨a4, ea4, hk_a4, hf⟩ := zn_inv hf
      refine z_ref ea4 ?_
      refine lv_iload_n hx hb dX7_square_45 rfl (lv_at hl 1 rfl) ?_
      obtain ⟨hix, hf⟩ := zx_inv hf
      refine xg_101 hx hb hK hC hk_a4 hix dX7_square_46 ?_
      refine lv_icmp_ge (tgt := 83) hx hb dX7_square_47 (by decide) (fun h22 => ?_) (fun h22 => ?_)
      · have hf := zif_t hf h22
        refine lv_iconst (v := 0) hx hb dX7_square_83 (by decide) ?_
        refine lv_istore (lv' := [(4, .int 0), (0, .ref th), (1, .int p1), (2, .int p2), (3, .int v3)]) hx hb dX7_square_84 hl (by decide) rfl (fun ls hl => ?_)
        exact L86 z _ _ _ _ v3 0 hC (lv_sub hl [1, 2, 3, 4, 0] rfl) hf
      · have hf := zif_f hf h22
        refine lv_iload_n hx hb dX7_square_50 rfl (lv_at hl 2 rfl) ?_
        refine lv_iconst (v := 4) hx hb dX7_square_51 (by decide) ?_
        refine lv_icmp_ge (tgt := 83) hx hb dX7_square_52 (by decide) (fun h21 => ?_) (fun h21 => ?_)
        · have hf := zif_t hf h21
          refine lv_iconst (v := 0) hx hb dX7_square_83 (by decide) ?_
          refine lv_istore (lv' := [(4, .int 0), (0, .ref th), (1, .int p1), (2, .int p2), (3, .int v3)]) hx hb dX7_square_84 hl (by decide) rfl (fun ls hl => ?_)
          exact L86 z _ _ _ _ v3 0 hC (lv_sub hl [1, 2, 3, 4, 0] rfl) hf
        · have hf := zif_f hf h21
          refine lv_iload_n hx hb dX7_square_55 rfl (lv_at hl 3 rfl) ?_
          refine lv_aload_n hx hb dX7_square_56 rfl (lv_at hl 0 rfl) ?_
          refine zg_7_2 hx hb hts hi7 hown hK hC hk_th w6 dX7_square_57 ?_
          obtain ⟨a18, ea18, hk_a18, hf⟩ := zn_inv hf
          refine z_ref ea18 ?_
          refine lv_sipush (v := 200) hx hb dX7_square_60 (by decide) ?_
          refine lv_iload_n hx hb dX7_square_63 rfl (lv_at hl 1 rfl) ?_
          refine lv_imul hx hb dX7_square_64 ?_
          refine lv_iload hx hb dX7_square_65 (lv_at hl 4 rfl) ?_
          refine lv_iadd hx hb dX7_square_67 ?_
          obtain ⟨hix, hf⟩ := zx_inv hf
          refine xg_102 hx hb hK hC hk_a18 hix dX7_square_68 ?_
          refine lv_iload_n hx hb dX7_square_69 rfl (lv_at hl 2 rfl) ?_
          refine lv_iconst (v := 1) hx hb dX7_square_70 (by decide) ?_
          refine lv_isub hx hb dX7_square_71 ?_
          refine lv_ishr hx hb dX7_square_72 ?_
          refine lv_iconst (v := 1) hx hb dX7_square_73 (by decide) ?_
          refine lv_iand hx hb dX7_square_74 ?_
          refine lv_iadd hx hb dX7_square_75 ?_
          obtain ⟨x19, ex19, hf⟩ := zlet_inv hf
          refine z_name ex19 ?_
          refine lv_istore_n (lv' := [(3, .int x19), (0, .ref th), (1, .int p1), (2, .int p2), (4, .int v4)]) hx hb dX7_square_76 rfl hl (by decide) rfl (fun ls hl => ?_)
          obtain ⟨x20, ex20, hf⟩ := zlet_inv hf
          refine lv_iinc (v := x20) (lv' := [(4, .int x20), (3, .int x19), (0, .ref th), (1, .int p1), (2, .int p2)]) hx hb dX7_square_77 hl (k := 4) rfl (by rw [ex20]; rfl) (by decide) rfl (fun ls hl => ?_)
          refine lv_goto (tgt := 39) hx hb dX7_square_80 (by decide) ?_
          exact ih39 _ _ _ _ x19 x20 hC (lv_sub hl [2, 3, 4, 1, 0] rfl) hf
  unfold f_X7_square at hf
  refine lv_aload_n hx hb dX7_square_0 rfl (lv_at hl 0 rfl) ?_
  refine lv_iconst (v := 0) hx hb dX7_square_1 (by decide) ?_
  obtain ⟨r1, er1, hf⟩ := zlet_inv hf
  refine zp_7_0 hx hb hts hi7 hown hK hC hk_th w0 er1 dX7_square_2 (fun H locs hC => ?_)
  refine lv_iload_n hx hb dX7_square_5 rfl (lv_at hl 1 rfl) ?_
  obtain ⟨x3, hc2, hf⟩ := zb_inv hf
  refine z_ci (z_rS (b := 0) (As := [.int p1]) (rest := []) ⟨hx, hb, hml, hown, hts⟩ (c_X7_noRow (l := l) (D := D) (cy := cy) (base := base) (st := st) (K := K) (L := L) (c := c) (r := r1) (o := o) (z := z) p1  hc2) (va_cwS 1 hts gX7_square_X7_noRow rfl rfl rfl (by decide +kernel) ⟨Nat.le_of_ble_eq_true rfl, Nat.le_of_ble_eq_true rfl⟩) hG hC rfl hl.1 rfl (lv_room (Nat.le_of_ble_eq_true rfl)) dX7_square_6 ⟨Nat.le_of_ble_eq_true rfl, Nat.le_of_ble_eq_true rfl⟩) hC (fun H locs hC => ?_)
  refine lv_if_ne (tgt := 21) hx hb dX7_square_9 (by decide) (fun h27 => ?_) (fun h27 => ?_)
  · have hf := zif_f hf h27
    refine lv_iconst (v := (-1)) hx hb dX7_square_21 (by decide) ?_
    exact z_iretM hx hb hr hlocks hC hf dX7_square_22
  · have hf := zif_t hf h27
    refine lv_iload_n hx hb dX7_square_12 rfl (lv_at hl 2 rfl) ?_
    refine lv_if_lt (tgt := 21) hx hb dX7_square_13 (by decide) (fun h26 => ?_) (fun h26 => ?_)
    · have hf := zif_t hf h26
      refine lv_iconst (v := (-1)) hx hb dX7_square_21 (by decide) ?_
      exact z_iretM hx hb hr hlocks hC hf dX7_square_22
    · have hf := zif_f hf h26
      refine lv_iload_n hx hb dX7_square_16 rfl (lv_at hl 2 rfl) ?_
      refine lv_iconst (v := 4) hx hb dX7_square_17 (by decide) ?_
      refine lv_icmp_le (tgt := 23) hx hb dX7_square_18 (by decide) (fun h25 => ?_) (fun h25 => ?_)
      · have hf := zif_t hf h25
        refine lv_iload_n hx hb dX7_square_23 rfl (lv_at hl 2 rfl) ?_
        refine lv_if_ne (tgt := 34) hx hb dX7_square_24 (by decide) (fun h24 => ?_) (fun h24 => ?_)
        · have hf := zif_f hf h24
          refine lv_iconst (v := 0) hx hb dX7_square_34 (by decide) ?_
          refine lv_istore_n (lv' := [(3, .int 0), (0, .ref th), (1, .int p1), (2, .int p2)]) hx hb dX7_square_35 rfl hl (by decide) rfl (fun ls hl => ?_)
          refine lv_iconst (v := 0) hx hb dX7_square_36 (by decide) ?_
          refine lv_istore (lv' := [(4, .int 0), (3, .int 0), (0, .ref th), (1, .int p1), (2, .int p2)]) hx hb dX7_square_37 hl (by decide) rfl (fun ls hl => ?_)
          exact L39 z _ _ _ _ 0 0 hC (lv_sub hl [2, 3, 4, 1, 0] rfl) hf
        · have hf := zif_t hf h24
          refine lv_aload_n hx hb dX7_square_27 rfl (lv_at hl 0 rfl) ?_
          refine zg_7_1 hx hb hts hi7 hown hK hC hk_th w1 dX7_square_28 ?_
          obtain ⟨a23, ea23, hk_a23, hf⟩ := zn_inv hf
          refine z_ref ea23 ?_
          refine lv_iload_n hx hb dX7_square_31 rfl (lv_at hl 1 rfl) ?_
          obtain ⟨hix, hf⟩ := zx_inv hf
          refine xg_101 hx hb hK hC hk_a23 hix dX7_square_32 ?_
          exact z_iretM hx hb hr hlocks hC hf dX7_square_33
      · have hf := zif_f hf h25
        refine lv_iconst (v := (-1)) hx hb dX7_square_21 (by decide) ?_
        exact z_iretM hx hb hr hlocks hC hf dX7_square_22
def f_X7_count_98 (K : Nat → Nat) (z : Nat) (th : Nat) (p1 : Int32) : Nat → zS → Int32 → Int32 → Option (Int64 × zS)
  | 0, _, _, _ => none
  | n + 1, rA, v2, v3 =>
    (if (zi rA 35 th 0) ≤ v3 then some ((Int32.toInt64 v2), rA) else zn K (zr rA 27 th 0) 127 fun a8 => zx v3 200 <| zb (f_X7_one K z rA (zi rA 127 a8 (Int32.toNatClampNeg v3))) fun x10 => zlet (v2 + x10) fun x11 => zlet (v3 + 1) fun x12 => f_X7_count_98 K z th p1 n rA x11 x12)
def f_X7_count (K : Nat → Nat) (z : Nat) (r : zS) (th : Nat) (p1 : Int32) : Option (Int64 × zS) :=
  zlet (zui r 0 th 0 0) fun r1 => (if p1 = 0 then some ((Int32.toInt64 (zi r1 7 th 0)), r1) else (if p1 = 1 then some ((Int32.toInt64 (zi r1 35 th 0)), r1) else (if p1 = 2 then some ((Int32.toInt64 (zi r1 37 th 0)), r1) else (if p1 = 3 then some ((Int32.toInt64 (zi r1 40 th 0)), r1) else (if p1 = 4 then some ((Int32.toInt64 (zi r1 39 th 0)), r1) else (if p1 = 5 then f_X7_count_98 K z th p1 z r1 0 0 else (if p1 = 6 then some (((zl r1 43 th 0) - (zl r1 44 th 0)), r1) else (if p1 = 7 then some ((zl r1 43 th 0), r1) else (if p1 = 8 then some ((zl r1 44 th 0), r1) else (if p1 = 9 then some ((Int32.toInt64 (zi r1 41 th 0)), r1) else (if p1 = 10 then some ((Int32.toInt64 (zi r1 42 th 0)), r1) else some ((-1), r1))))))))))))
set_option maxRecDepth 100000 in
set_option maxHeartbeats 4000000 in
theorem c_X7_count {l : Launch} {D : va_G} {cy : Nat → ClassId} {base : Nat} {st : Nat → Nat} {K : Nat → Nat} {L : List Nat} {c r : zS} {o : Int64} {z : Nat} (th : Nat) (p1 : Int32) {rv : Int64} {rf : zS}  (hk_th : K th = 7) (hf : f_X7_count K z r th p1 = some (rv, rf)) : Met l yX7_count wsX7_count ({ frames := 1, cells := 0, slots := 0, locals := 20 }) (va_Pc [.ref th, .int p1] (zGW zts0 zns0 D cy base st K L (c, r, o))) (va_Ql (fun (rr : Int64) (_ : Unit) => rr = rv) (fun _ => zB D cy base K L (c, rf, o)) (zA base)) 0 0 (zA base) := by
  refine Met.ofW (cc := cX7_count) (maxL := 4) (ret := (some .long)) (by decide) rfl ?_
  intro p e s m args below meth cd s₁ B hml hv
  obtain ⟨rfl, hG⟩ := hv
  have hx := B.exec
  have hb := B.bytes
  have hr := B.returns
  have hts := atoms_spec (ws := wsX7_count) B.pre
  have hown : s.vm.findClass RX7 = some m.cls := findClass_of_methodNamed B.named
  have hlocks := B.notSynchronized
  have hC := hG.enter
  have hK := hG.2.2.2.1
  have hi7 : ∀ w ∈ wsX70, w ∈ wsX7_count := by decide +kernel
  have w0 := hts (.fieldLink RX7 127 "MarketSquareModel" "thrown" "I") (by decide +kernel)
  have w1 := hts (.fieldLink RX7 134 "MarketSquareModel" "trades" "I") (by decide +kernel)
  have w2 := hts (.fieldLink RX7 131 "MarketSquareModel" "traders" "I") (by decide +kernel)
  have w3 := hts (.fieldLink RX7 214 "MarketSquareModel" "time" "I") (by decide +kernel)
  have w4 := hts (.fieldLink RX7 240 "MarketSquareModel" "begun" "I") (by decide +kernel)
  have w5 := hts (.fieldLink RX7 220 "MarketSquareModel" "hour" "I") (by decide +kernel)
  have w6 := hts (.fieldLink RX7 87 "MarketSquareModel" "stands" "[Z") (by decide +kernel)
  have w7 := hts (.fieldLink RX7 223 "MarketSquareModel" "fees" "J") (by decide +kernel)
  have w8 := hts (.fieldLink RX7 276 "MarketSquareModel" "payments" "J") (by decide +kernel)
  have w9 := hts (.fieldLink RX7 261 "MarketSquareModel" "lost" "I") (by decide +kernel)
  have w10 := hts (.fieldLink RX7 267 "MarketSquareModel" "given" "I") (by decide +kernel)
  have w11 := hts (.constantLong RX7 283 (-1)) (by decide +kernel)
  have hl := lv_entry ([.ref th, .int p1]) (n := 4) (Nat.le_of_ble_eq_true rfl)
  rw [lg_entry_eq]
  generalize (lg_sl ([.ref th, .int p1]) ++ List.replicate (4 - (lg_sl ([.ref th, .int p1])).length) Slot.unset).toArray = ls at hl ⊢
  have hl : lv_has ls 4 [(0, .ref th), (1, .int p1)] := hl
  have L98 : ∀ (n98 : Nat) (rA : zS) (H : Heap) (locs : List Loc) (ls : Array Slot) (v2 : Int32) (v3 : Int32), zC D cy base K L (c, rA, o) s.heap H locs → lv_has ls 4 [(0, .ref th), (1, .int p1), (2, .int v2), (3, .int v3)] → f_X7_count_98 K z th p1 n98 rA v2 v3 = some (rv, rf) → W p l e (headSpec wsX7_count ({ frames := 1, cells := 0, slots := 0, locals := 20 })).room s m ([.ref th, .int p1] : List Value).toArray below meth cd H locs 0 0 (MQ below (va_Ql (fun (rr : Int64) (_ : Unit) => rr = rv) (fun _ => zB D cy base K L (c, rf, o)) (zA base)) ([.ref th, .int p1] : List Value).toArray s 0 0 (zA base)) (F0 m 98 ls []) := by
    intro n98
    induction n98 with
    | zero => intro rA H locs ls v2 v3 hC hl hf; rw [f_X7_count_98] at hf; cases hf
    | succ n98 ih98 =>
      intro rA H locs ls v2 v3 hC hl hf
      rw [f_X7_count_98] at hf
      refine lv_iload_n hx hb dX7_count_98 rfl (lv_at hl 3 rfl) ?_
      refine lv_aload_n hx hb dX7_count_99 rfl (lv_at hl 0 rfl) ?_
      refine zg_7_35 hx hb hts hi7 hown hK hC hk_th w2 dX7_count_100 ?_
      refine lv_icmp_ge (tgt := 124) hx hb dX7_count_103 (by decide) (fun h13 => ?_) (fun h13 => ?_)
      · have hf := zif_t hf h13
        refine lv_iload_n hx hb dX7_count_124 rfl (lv_at hl 2 rfl) ?_
        refine lv_i2l (v := (Int32.toInt64 v2)) hx hb dX7_count_125 rfl ?_
        exact z_lretM hx hb hr hlocks hC hf dX7_count_126
      · have hf := zif_f hf h13
        refine lv_iload_n hx hb dX7_count_106 rfl (lv_at hl 2 rfl) ?_
        refine lv_aload_n hx hb dX7_count_107 rfl (lv_at hl 0 rfl) ?_
        refine zg_7_27 hx hb hts hi7 hown hK hC hk_th w6 dX7_count_108 ?_
        obtain ⟨a8, ea8, hk_a8, hf⟩ := zn_inv hf
        refine z_ref ea8 ?_
        refine lv_iload_n hx hb dX7_count_111 rfl (lv_at hl 3 rfl) ?_
        obtain ⟨hix, hf⟩ := zx_inv hf
        refine xg_127 hx hb hK hC hk_a8 hix dX7_count_112 ?_
        obtain ⟨x10, hc9, hf⟩ := zb_inv hf
        refine z_ci (z_rS (b := 0) (As := [.int (zi rA 127 a8 (Int32.toNatClampNeg v3))]) (rest := [.int v2]) ⟨hx, hb, hml, hown, hts⟩ (c_X7_one (l := l) (D := D) (cy := cy) (base := base) (st := st) (K := K) (L := L) (c := c) (r := rA) (o := o) (z := z) (zi rA 127 a8 (Int32.toNatClampNeg v3))  hc9) (va_cwS 1 hts gX7_count_X7_one rfl rfl rfl (by decide +kernel) ⟨Nat.le_of_ble_eq_true rfl, Nat.le_of_ble_eq_true rfl⟩) hG hC rfl hl.1 rfl (lv_room (Nat.le_of_ble_eq_true rfl)) dX7_count_113 ⟨Nat.le_of_ble_eq_true rfl, Nat.le_of_ble_eq_true rfl⟩) hC (fun H locs hC => ?_)
        refine lv_iadd hx hb dX7_count_116 ?_
        obtain ⟨x11, ex11, hf⟩ := zlet_inv hf
        refine z_name ex11 ?_
        refine lv_istore_n (lv' := [(2, .int x11), (0, .ref th), (1, .int p1), (3, .int v3)]) hx hb dX7_count_117 rfl hl (by decide) rfl (fun ls hl => ?_)
        obtain ⟨x12, ex12, hf⟩ := zlet_inv hf
        refine lv_iinc (v := x12) (lv' := [(3, .int x12), (2, .int x11), (0, .ref th), (1, .int p1)]) hx hb dX7_count_118 hl (k := 3) rfl (by rw [ex12]; rfl) (by decide) rfl (fun ls hl => ?_)
        refine lv_goto (tgt := 98) hx hb dX7_count_121 (by decide) ?_
        exact ih98 _ _ _ _ x11 x12 hC (lv_sub hl [2, 3, 1, 0] rfl) hf
  unfold f_X7_count at hf
  refine lv_aload_n hx hb dX7_count_0 rfl (lv_at hl 0 rfl) ?_
  refine lv_iconst (v := 0) hx hb dX7_count_1 (by decide) ?_
  obtain ⟨r1, er1, hf⟩ := zlet_inv hf
  refine zp_7_0 hx hb hts hi7 hown hK hC hk_th w0 er1 dX7_count_2 (fun H locs hC => ?_)
  refine lv_iload_n hx hb dX7_count_5 rfl (lv_at hl 1 rfl) ?_
  by_cases h2 : p1 = 0
  · have hf := zif_t hf h2
    refine z_name h2.symm ?_
    refine lv_tableIn (off := 58) (tgt := 64) hx hb dX7_count_6 (by decide) (by decide) (by decide) (by decide) ?_
    refine lv_aload_n hx hb dX7_count_64 rfl (lv_at hl 0 rfl) ?_
    refine zg_7_7 hx hb hts hi7 hown hK hC hk_th w1 dX7_count_65 ?_
    refine lv_i2l (v := (Int32.toInt64 (zi r1 7 th 0))) hx hb dX7_count_68 rfl ?_
    exact z_lretM hx hb hr hlocks hC hf dX7_count_69
  have hf := zif_f hf h2
  by_cases h3 : p1 = 1
  · have hf := zif_t hf h3
    refine z_name h3.symm ?_
    refine lv_tableIn (off := 64) (tgt := 70) hx hb dX7_count_6 (by decide) (by decide) (by decide) (by decide) ?_
    refine lv_aload_n hx hb dX7_count_70 rfl (lv_at hl 0 rfl) ?_
    refine zg_7_35 hx hb hts hi7 hown hK hC hk_th w2 dX7_count_71 ?_
    refine lv_i2l (v := (Int32.toInt64 (zi r1 35 th 0))) hx hb dX7_count_74 rfl ?_
    exact z_lretM hx hb hr hlocks hC hf dX7_count_75
  have hf := zif_f hf h3
  by_cases h4 : p1 = 2
  · have hf := zif_t hf h4
    refine z_name h4.symm ?_
    refine lv_tableIn (off := 70) (tgt := 76) hx hb dX7_count_6 (by decide) (by decide) (by decide) (by decide) ?_
    refine lv_aload_n hx hb dX7_count_76 rfl (lv_at hl 0 rfl) ?_
    refine zg_7_37 hx hb hts hi7 hown hK hC hk_th w3 dX7_count_77 ?_
    refine lv_i2l (v := (Int32.toInt64 (zi r1 37 th 0))) hx hb dX7_count_80 rfl ?_
    exact z_lretM hx hb hr hlocks hC hf dX7_count_81
  have hf := zif_f hf h4
  by_cases h5 : p1 = 3
  · have hf := zif_t hf h5
    refine z_name h5.symm ?_
    refine lv_tableIn (off := 76) (tgt := 82) hx hb dX7_count_6 (by decide) (by decide) (by decide) (by decide) ?_
    refine lv_aload_n hx hb dX7_count_82 rfl (lv_at hl 0 rfl) ?_
    refine zg_7_40 hx hb hts hi7 hown hK hC hk_th w4 dX7_count_83 ?_
    refine lv_i2l (v := (Int32.toInt64 (zi r1 40 th 0))) hx hb dX7_count_86 rfl ?_
    exact z_lretM hx hb hr hlocks hC hf dX7_count_87
  have hf := zif_f hf h5
  by_cases h6 : p1 = 4
  · have hf := zif_t hf h6
    refine z_name h6.symm ?_
    refine lv_tableIn (off := 82) (tgt := 88) hx hb dX7_count_6 (by decide) (by decide) (by decide) (by decide) ?_
    refine lv_aload_n hx hb dX7_count_88 rfl (lv_at hl 0 rfl) ?_
    refine zg_7_39 hx hb hts hi7 hown hK hC hk_th w5 dX7_count_89 ?_
    refine lv_i2l (v := (Int32.toInt64 (zi r1 39 th 0))) hx hb dX7_count_92 rfl ?_
    exact z_lretM hx hb hr hlocks hC hf dX7_count_93
  have hf := zif_f hf h6
  by_cases h7 : p1 = 5
  · have hf := zif_t hf h7
    refine z_name h7.symm ?_
    refine lv_tableIn (off := 88) (tgt := 94) hx hb dX7_count_6 (by decide) (by decide) (by decide) (by decide) ?_
    refine lv_iconst (v := 0) hx hb dX7_count_94 (by decide) ?_
    refine lv_istore_n (lv' := [(2, .int 0), (0, .ref th), (1, .int p1)]) hx hb dX7_count_95 rfl hl (by decide) rfl (fun ls hl => ?_)
    refine lv_iconst (v := 0) hx hb dX7_count_96 (by decide) ?_
    refine lv_istore_n (lv' := [(3, .int 0), (2, .int 0), (0, .ref th), (1, .int p1)]) hx hb dX7_count_97 rfl hl (by decide) rfl (fun ls hl => ?_)
    exact L98 z _ _ _ _ 0 0 hC (lv_sub hl [2, 3, 1, 0] rfl) hf
  have hf := zif_f hf h7
  by_cases h14 : p1 = 6
  · have hf := zif_t hf h14
    refine z_name h14.symm ?_
    refine lv_tableIn (off := 121) (tgt := 127) hx hb dX7_count_6 (by decide) (by decide) (by decide) (by decide) ?_
    refine lv_aload_n hx hb dX7_count_127 rfl (lv_at hl 0 rfl) ?_
    refine zg_7_43 hx hb hts hi7 hown hK hC hk_th w7 dX7_count_128 ?_
    refine lv_aload_n hx hb dX7_count_131 rfl (lv_at hl 0 rfl) ?_
    refine zg_7_44 hx hb hts hi7 hown hK hC hk_th w8 dX7_count_132 ?_
    refine lv_lsub hx hb dX7_count_135 ?_
    exact z_lretM hx hb hr hlocks hC hf dX7_count_136
  have hf := zif_f hf h14
  by_cases h15 : p1 = 7
  · have hf := zif_t hf h15
    refine z_name h15.symm ?_
    refine lv_tableIn (off := 131) (tgt := 137) hx hb dX7_count_6 (by decide) (by decide) (by decide) (by decide) ?_
    refine lv_aload_n hx hb dX7_count_137 rfl (lv_at hl 0 rfl) ?_
    refine zg_7_43 hx hb hts hi7 hown hK hC hk_th w7 dX7_count_138 ?_
    exact z_lretM hx hb hr hlocks hC hf dX7_count_141
  have hf := zif_f hf h15
  by_cases h16 : p1 = 8
  · have hf := zif_t hf h16
    refine z_name h16.symm ?_
    refine lv_tableIn (off := 136) (tgt := 142) hx hb dX7_count_6 (by decide) (by decide) (by decide) (by decide) ?_
    refine lv_aload_n hx hb dX7_count_142 rfl (lv_at hl 0 rfl) ?_
    refine zg_7_44 hx hb hts hi7 hown hK hC hk_th w8 dX7_count_143 ?_
    exact z_lretM hx hb hr hlocks hC hf dX7_count_146
  have hf := zif_f hf h16
  by_cases h17 : p1 = 9
  · have hf := zif_t hf h17
    refine z_name h17.symm ?_
    refine lv_tableIn (off := 141) (tgt := 147) hx hb dX7_count_6 (by decide) (by decide) (by decide) (by decide) ?_
    refine lv_aload_n hx hb dX7_count_147 rfl (lv_at hl 0 rfl) ?_
    refine zg_7_41 hx hb hts hi7 hown hK hC hk_th w9 dX7_count_148 ?_
    refine lv_i2l (v := (Int32.toInt64 (zi r1 41 th 0))) hx hb dX7_count_151 rfl ?_
    exact z_lretM hx hb hr hlocks hC hf dX7_count_152
  have hf := zif_f hf h17
  by_cases h18 : p1 = 10
  · have hf := zif_t hf h18
    refine z_name h18.symm ?_
    refine lv_tableIn (off := 147) (tgt := 153) hx hb dX7_count_6 (by decide) (by decide) (by decide) (by decide) ?_
    refine lv_aload_n hx hb dX7_count_153 rfl (lv_at hl 0 rfl) ?_
    refine zg_7_42 hx hb hts hi7 hown hK hC hk_th w10 dX7_count_154 ?_
    refine lv_i2l (v := (Int32.toInt64 (zi r1 42 th 0))) hx hb dX7_count_157 rfl ?_
    exact z_lretM hx hb hr hlocks hC hf dX7_count_158
  have hf := zif_f hf h18
  refine lv_tableOut (tgt := 159) hx hb dX7_count_6 (by have q0 := z_ne (k := 0) (by decide) h2; have q1 := z_ne (k := 1) (by decide) h3; have q2 := z_ne (k := 2) (by decide) h4; have q3 := z_ne (k := 3) (by decide) h5; have q4 := z_ne (k := 4) (by decide) h6; have q5 := z_ne (k := 5) (by decide) h7; have q6 := z_ne (k := 6) (by decide) h14; have q7 := z_ne (k := 7) (by decide) h15; have q8 := z_ne (k := 8) (by decide) h16; have q9 := z_ne (k := 9) (by decide) h17; have q10 := z_ne (k := 10) (by decide) h18; omega) (by decide) ?_
  refine lv_ldc2 (v := (-1)) hx hb hown w11 dX7_count_159 ?_
  exact z_lretM hx hb hr hlocks hC hf dX7_count_162
