def f_X7_noRow (K : Nat → Nat) (z : Nat) (r : zS) (p1 : Int32) : Option Int32 :=
  (if p1 < 0 then some 1 else (if p1 < 40 then some 0 else some 1))
set_option maxRecDepth 100000 in
set_option maxHeartbeats 4000000 in
theorem c_X7_noRow {l : Launch} {D : va_G} {cy : Nat → ClassId} {base : Nat} {st : Nat → Nat} {K : Nat → Nat} {L : List Nat} {c r : zS} {o : Int64} {z : Nat} (p1 : Int32) {rv : Int32}  (hf : f_X7_noRow K z r p1 = some rv) : Met l yX7_noRow wsX7_noRow ({ frames := 0, cells := 0, slots := 0, locals := 0 }) (va_Pc [.int p1] (zGW zts0 zns0 D cy base st K L (c, r, o))) (va_Qi (fun (rr : Int32) (_ : Unit) => rr = rv) (fun _ => zB D cy base K L (c, r, o)) (zA base)) 0 0 (zA base) := by
  refine Met.ofW (cc := cX7_noRow) (maxL := 1) (ret := (some .boolean)) (by decide) rfl ?_
  intro p e s m args below meth cd s₁ B hml hv
  obtain ⟨rfl, hG⟩ := hv
  have hx := B.exec
  have hb := B.bytes
  have hr := B.returns
  have hts := atoms_spec (ws := wsX7_noRow) B.pre
  have hown : s.vm.findClass RX7 = some m.cls := findClass_of_methodNamed B.named
  have hlocks := B.notSynchronized
  have hC := hG.enter
  have hK := hG.2.2.2.1
  have hl := lv_entry ([.int p1]) (n := 1) (Nat.le_of_ble_eq_true rfl)
  rw [lg_entry_eq]
  generalize (lg_sl ([.int p1]) ++ List.replicate (1 - (lg_sl ([.int p1])).length) Slot.unset).toArray = ls at hl ⊢
  have hl : lv_has ls 1 [(0, .int p1)] := hl
  unfold f_X7_noRow at hf
  refine lv_iload_n hx hb dX7_noRow_0 rfl (lv_at hl 0 rfl) ?_
  refine lv_if_lt (tgt := 10) hx hb dX7_noRow_1 (by decide) (fun h2 => ?_) (fun h2 => ?_)
  · have hf := zif_t hf h2
    refine lv_iconst (v := 1) hx hb dX7_noRow_10 (by decide) ?_
    refine lv_goto (tgt := 15) hx hb dX7_noRow_11 (by decide) ?_
    exact z_zret hx hb hr hlocks hC (Or.inr rfl) hf dX7_noRow_15
  · have hf := zif_f hf h2
    refine lv_iload_n hx hb dX7_noRow_4 rfl (lv_at hl 0 rfl) ?_
    refine lv_bipush (v := 40) hx hb dX7_noRow_5 (by decide) ?_
    refine lv_icmp_lt (tgt := 14) hx hb dX7_noRow_7 (by decide) (fun h1 => ?_) (fun h1 => ?_)
    · have hf := zif_t hf h1
      refine lv_iconst (v := 0) hx hb dX7_noRow_14 (by decide) ?_
      exact z_zret hx hb hr hlocks hC (Or.inl rfl) hf dX7_noRow_15
    · have hf := zif_f hf h1
      refine lv_iconst (v := 1) hx hb dX7_noRow_10 (by decide) ?_
      refine lv_goto (tgt := 15) hx hb dX7_noRow_11 (by decide) ?_
      exact z_zret hx hb hr hlocks hC (Or.inr rfl) hf dX7_noRow_15
def f_X7_throwsIf (K : Nat → Nat) (z : Nat) (r : zS) (th : Nat) (p1 : Int32) (p2 : Int32) : Option (Int32 × zS) :=
  (if p1 = 0 then zz p1 <| some (p1, r) else zlet (zui r 0 th 0 p2) fun r2 => zz p1 <| some (p1, r2))
set_option maxRecDepth 100000 in
set_option maxHeartbeats 4000000 in
theorem c_X7_throwsIf {l : Launch} {D : va_G} {cy : Nat → ClassId} {base : Nat} {st : Nat → Nat} {K : Nat → Nat} {L : List Nat} {c r : zS} {o : Int64} {z : Nat} (th : Nat) (p1 : Int32) (p2 : Int32) {rv : Int32} {rf : zS}  (hk_th : K th = 7) (hf : f_X7_throwsIf K z r th p1 p2 = some (rv, rf)) : Met l yX7_throwsIf wsX7_throwsIf ({ frames := 0, cells := 0, slots := 0, locals := 0 }) (va_Pc [.ref th, .int p1, .int p2] (zGW zts0 zns0 D cy base st K L (c, r, o))) (va_Qi (fun (rr : Int32) (_ : Unit) => rr = rv) (fun _ => zB D cy base K L (c, rf, o)) (zA base)) 0 0 (zA base) := by
  refine Met.ofW (cc := cX7_throwsIf) (maxL := 3) (ret := (some .boolean)) (by decide) rfl ?_
  intro p e s m args below meth cd s₁ B hml hv
  obtain ⟨rfl, hG⟩ := hv
  have hx := B.exec
  have hb := B.bytes
  have hr := B.returns
  have hts := atoms_spec (ws := wsX7_throwsIf) B.pre
  have hown : s.vm.findClass RX7 = some m.cls := findClass_of_methodNamed B.named
  have hlocks := B.notSynchronized
  have hC := hG.enter
  have hK := hG.2.2.2.1
  have hi7 : ∀ w ∈ wsX70, w ∈ wsX7_throwsIf := by decide +kernel
  have w0 := hts (.fieldLink RX7 127 "MarketSquareModel" "thrown" "I") (by decide +kernel)
  have hl := lv_entry ([.ref th, .int p1, .int p2]) (n := 3) (Nat.le_of_ble_eq_true rfl)
  rw [lg_entry_eq]
  generalize (lg_sl ([.ref th, .int p1, .int p2]) ++ List.replicate (3 - (lg_sl ([.ref th, .int p1, .int p2])).length) Slot.unset).toArray = ls at hl ⊢
  have hl : lv_has ls 3 [(0, .ref th), (1, .int p1), (2, .int p2)] := hl
  unfold f_X7_throwsIf at hf
  refine lv_iload_n hx hb dX7_throwsIf_0 rfl (lv_at hl 1 rfl) ?_
  refine lv_if_eq (tgt := 9) hx hb dX7_throwsIf_1 (by decide) (fun h4 => ?_) (fun h4 => ?_)
  · have hf := zif_t hf h4
    refine lv_iload_n hx hb dX7_throwsIf_9 rfl (lv_at hl 1 rfl) ?_
    obtain ⟨hz1, hf⟩ := zz_inv hf
    exact z_zretM hx hb hr hlocks hC hz1 hf dX7_throwsIf_10
  · have hf := zif_f hf h4
    refine lv_aload_n hx hb dX7_throwsIf_4 rfl (lv_at hl 0 rfl) ?_
    refine lv_iload_n hx hb dX7_throwsIf_5 rfl (lv_at hl 2 rfl) ?_
    obtain ⟨r2, er2, hf⟩ := zlet_inv hf
    refine zp_7_0 hx hb hts hi7 hown hK hC hk_th w0 er2 dX7_throwsIf_6 (fun H locs hC => ?_)
    refine lv_iload_n hx hb dX7_throwsIf_9 rfl (lv_at hl 1 rfl) ?_
    obtain ⟨hz3, hf⟩ := zz_inv hf
    exact z_zretM hx hb hr hlocks hC hz3 hf dX7_throwsIf_10
def f_X7_row_71 (K : Nat → Nat) (z : Nat) (th : Nat) (p1 : Int32) (p2 : Int32) : Nat → zS → Int32 → Option zS
  | 0, _, _ => none
  | n + 1, rA, v3 =>
    (if 200 ≤ v3 then some rA else zn K (zr rA 2 th 0) 102 fun a15 => zx ((200 * p1) + v3) 8000 <| zlet (zui rA 102 a15 (Int32.toNatClampNeg ((200 * p1) + v3)) (Int8.toInt32 (Int32.toInt8 0))) fun r16 => zlet (v3 + 1) fun x17 => f_X7_row_71 K z th p1 p2 n r16 x17)
def f_X7_row_54 (K : Nat → Nat) (z : Nat) (th : Nat) (p1 : Int32) (p2 : Int32) (rA : zS) (s0 : Nat) (s1 : Int32) : Option zS :=
  zb2 (f_X7_throwsIf K z rA s0 s1 3) fun x11 r12 => (if x11 = 0 then zn K (zr r12 1 th 0) 101 fun a13 => zx p1 40 <| zlet (zui r12 101 a13 (Int32.toNatClampNeg p1) p2) fun r14 => f_X7_row_71 K z th p1 p2 z r14 0 else some r12)
def f_X7_row_34 (K : Nat → Nat) (z : Nat) (th : Nat) (p1 : Int32) (p2 : Int32) (rA : zS) (s0 : Nat) (s1 : Int32) : Option zS :=
  zb2 (f_X7_throwsIf K z rA s0 s1 2) fun x8 r9 => (if x8 = 0 then (if (zi r9 37 th 0) = 0 then f_X7_row_54 K z th p1 p2 r9 th 0 else f_X7_row_54 K z th p1 p2 r9 th 1) else some r9)
def f_X7_row_29 (K : Nat → Nat) (z : Nat) (th : Nat) (p1 : Int32) (p2 : Int32) (rA : zS) (s0 : Nat) : Option zS :=
  f_X7_row_34 K z th p1 p2 rA s0 1
def f_X7_row (K : Nat → Nat) (z : Nat) (r : zS) (th : Nat) (p1 : Int32) (p2 : Int32) : Option zS :=
  zlet (zui r 0 th 0 0) fun r1 => zb (f_X7_noRow K z r1 p1) fun x3 => zb2 (f_X7_throwsIf K z r1 th x3 1) fun x5 r6 => (if x5 = 0 then (if p2 < 0 then f_X7_row_29 K z th p1 p2 r6 th else (if p2 ≤ 200 then f_X7_row_34 K z th p1 p2 r6 th 0 else f_X7_row_29 K z th p1 p2 r6 th)) else some r6)
set_option maxRecDepth 100000 in
set_option maxHeartbeats 4000000 in
theorem c_X7_row {l : Launch} {D : va_G} {cy : Nat → ClassId} {base : Nat} {st : Nat → Nat} {K : Nat → Nat} {L : List Nat} {c r : zS} {o : Int64} {z : Nat} (th : Nat) (p1 : Int32) (p2 : Int32) {rf : zS}  (hk_th : K th = 7) (hf : f_X7_row K z r th p1 p2 = some rf) : Met l yX7_row wsX7_row ({ frames := 1, cells := 0, slots := 0, locals := 22 }) (va_Pc [.ref th, .int p1, .int p2] (zGW zts0 zns0 D cy base st K L (c, r, o))) (va_Qv (fun (_ : Unit) => True) (fun _ => zB D cy base K L (c, rf, o)) (zA base)) 0 0 (zA base) := by
  refine Met.ofW (cc := cX7_row) (maxL := 4) (ret := none) (by decide) rfl ?_
  intro p e s m args below meth cd s₁ B hml hv
  obtain ⟨rfl, hG⟩ := hv
  have hx := B.exec
  have hb := B.bytes
  have hr := B.returns
  have hts := atoms_spec (ws := wsX7_row) B.pre
  have hown : s.vm.findClass RX7 = some m.cls := findClass_of_methodNamed B.named
  have hlocks := B.notSynchronized
  have hC := hG.enter
  have hK := hG.2.2.2.1
  have hi7 : ∀ w ∈ wsX70, w ∈ wsX7_row := by decide +kernel
  have w0 := hts (.fieldLink RX7 127 "MarketSquareModel" "thrown" "I") (by decide +kernel)
  have w1 := hts (.fieldLink RX7 214 "MarketSquareModel" "time" "I") (by decide +kernel)
  have w2 := hts (.fieldLink RX7 9 "MarketSquareModel" "places" "[I") (by decide +kernel)
  have w3 := hts (.fieldLink RX7 13 "MarketSquareModel" "marks" "[B") (by decide +kernel)
  have hl := lv_entry ([.ref th, .int p1, .int p2]) (n := 4) (Nat.le_of_ble_eq_true rfl)
  rw [lg_entry_eq]
  generalize (lg_sl ([.ref th, .int p1, .int p2]) ++ List.replicate (4 - (lg_sl ([.ref th, .int p1, .int p2])).length) Slot.unset).toArray = ls at hl ⊢
  have hl : lv_has ls 4 [(0, .ref th), (1, .int p1), (2, .int p2)] := hl
  have L71 : ∀ (n71 : Nat) (rA : zS) (H : Heap) (locs : List Loc) (ls : Array Slot) (v3 : Int32), zC D cy base K L (c, rA, o) s.heap H locs → lv_has ls 4 [(0, .ref th), (1, .int p1), (2, .int p2), (3, .int v3)] → f_X7_row_71 K z th p1 p2 n71 rA v3 = some rf → W p l e (headSpec wsX7_row ({ frames := 1, cells := 0, slots := 0, locals := 22 })).room s m ([.ref th, .int p1, .int p2] : List Value).toArray below meth cd H locs 0 0 (MQ below (va_Qv (fun (_ : Unit) => True) (fun _ => zB D cy base K L (c, rf, o)) (zA base)) ([.ref th, .int p1, .int p2] : List Value).toArray s 0 0 (zA base)) (F0 m 71 ls []) := by
    intro n71
    induction n71 with
    | zero => intro rA H locs ls v3 hC hl hf; rw [f_X7_row_71] at hf; cases hf
    | succ n71 ih71 =>
      intro rA H locs ls v3 hC hl hf
      rw [f_X7_row_71] at hf
      refine lv_iload_n hx hb dX7_row_71 rfl (lv_at hl 3 rfl) ?_
      refine lv_sipush (v := 200) hx hb dX7_row_72 (by decide) ?_
      refine lv_icmp_ge (tgt := 97) hx hb dX7_row_75 (by decide) (fun h18 => ?_) (fun h18 => ?_)
      · have hf := zif_t hf h18
        exact z_vretM hx hb hr hlocks hC hf dX7_row_97
      · have hf := zif_f hf h18
        refine lv_aload_n hx hb dX7_row_78 rfl (lv_at hl 0 rfl) ?_
        refine zg_7_2 hx hb hts hi7 hown hK hC hk_th w3 dX7_row_79 ?_
        obtain ⟨a15, ea15, hk_a15, hf⟩ := zn_inv hf
        refine z_ref ea15 ?_
        refine lv_sipush (v := 200) hx hb dX7_row_82 (by decide) ?_
        refine lv_iload_n hx hb dX7_row_85 rfl (lv_at hl 1 rfl) ?_
        refine lv_imul hx hb dX7_row_86 ?_
        refine lv_iload_n hx hb dX7_row_87 rfl (lv_at hl 3 rfl) ?_
        refine lv_iadd hx hb dX7_row_88 ?_
        refine lv_iconst (v := 0) hx hb dX7_row_89 (by decide) ?_
        obtain ⟨hix, hf⟩ := zx_inv hf
        obtain ⟨r16, er16, hf⟩ := zlet_inv hf
        refine xp_102 hx hb hK hC hk_a15 hix er16 dX7_row_90 (fun H locs hC => ?_)
        obtain ⟨x17, ex17, hf⟩ := zlet_inv hf
        refine lv_iinc (v := x17) (lv' := [(3, .int x17), (0, .ref th), (1, .int p1), (2, .int p2)]) hx hb dX7_row_91 hl (k := 3) rfl (by rw [ex17]; rfl) (by decide) rfl (fun ls hl => ?_)
        refine lv_goto (tgt := 71) hx hb dX7_row_94 (by decide) ?_
        exact ih71 _ _ _ _ x17 hC (lv_sub hl [1, 2, 3, 0] rfl) hf
  have J54 : ∀ (rA : zS) (H : Heap) (locs : List Loc) (ls : Array Slot) (s0 : Nat) (s1 : Int32), K s0 = 7 → zC D cy base K L (c, rA, o) s.heap H locs → lv_has ls 4 [(0, .ref th), (1, .int p1), (2, .int p2)] → f_X7_row_54 K z th p1 p2 rA s0 s1 = some rf → W p l e (headSpec wsX7_row ({ frames := 1, cells := 0, slots := 0, locals := 22 })).room s m ([.ref th, .int p1, .int p2] : List Value).toArray below meth cd H locs 0 0 (MQ below (va_Qv (fun (_ : Unit) => True) (fun _ => zB D cy base K L (c, rf, o)) (zA base)) ([.ref th, .int p1, .int p2] : List Value).toArray s 0 0 (zA base)) (F0 m 54 ls [.int s1, .ref s0]) := by
    intro rA H locs ls s0 s1 hk_s0 hC hl hf
    unfold f_X7_row_54 at hf
    refine lv_iconst (v := 3) hx hb dX7_row_54 (by decide) ?_
    obtain ⟨x11, r12, hc10, hf⟩ := zb2_inv hf
    refine z_ci (z_rV (As := [.int s1, .int 3]) (rest := []) ⟨hx, hb, hml, hown, hts⟩ (c_X7_throwsIf (l := l) (D := D) (cy := cy) (base := base) (st := st) (K := K) (L := L) (c := c) (r := rA) (o := o) (z := z) s0 s1 3 hk_s0 hc10) (cwV 2 hts gX7_row_X7_throwsIf rfl rfl rfl (by decide +kernel) ⟨Nat.le_of_ble_eq_true rfl, Nat.le_of_ble_eq_true rfl⟩) hG hC (zC.recv (ci := 7) (fs := _) hK hC (by rw [hk_s0]; decide) (by rw [hk_s0]; exact zc_7 cy _ _) rfl) rfl hl.1 rfl (lv_room (Nat.le_of_ble_eq_true rfl)) dX7_row_55 ⟨Nat.le_of_ble_eq_true rfl, Nat.le_of_ble_eq_true rfl⟩) hC (fun H locs hC => ?_)
    refine lv_if_eq (tgt := 62) hx hb dX7_row_58 (by decide) (fun h19 => ?_) (fun h19 => ?_)
    · have hf := zif_t hf h19
      refine lv_aload_n hx hb dX7_row_62 rfl (lv_at hl 0 rfl) ?_
      refine zg_7_1 hx hb hts hi7 hown hK hC hk_th w2 dX7_row_63 ?_
      obtain ⟨a13, ea13, hk_a13, hf⟩ := zn_inv hf
      refine z_ref ea13 ?_
      refine lv_iload_n hx hb dX7_row_66 rfl (lv_at hl 1 rfl) ?_
      refine lv_iload_n hx hb dX7_row_67 rfl (lv_at hl 2 rfl) ?_
      obtain ⟨hix, hf⟩ := zx_inv hf
      obtain ⟨r14, er14, hf⟩ := zlet_inv hf
      refine xp_101 hx hb hK hC hk_a13 hix er14 dX7_row_68 (fun H locs hC => ?_)
      refine lv_iconst (v := 0) hx hb dX7_row_69 (by decide) ?_
      refine lv_istore_n (lv' := [(3, .int 0), (0, .ref th), (1, .int p1), (2, .int p2)]) hx hb dX7_row_70 rfl hl (by decide) rfl (fun ls hl => ?_)
      exact L71 z _ _ _ _ 0 hC (lv_sub hl [1, 2, 3, 0] rfl) hf
    · have hf := zif_f hf h19
      exact z_vretM hx hb hr hlocks hC hf dX7_row_61
  have J34 : ∀ (rA : zS) (H : Heap) (locs : List Loc) (ls : Array Slot) (s0 : Nat) (s1 : Int32), K s0 = 7 → zC D cy base K L (c, rA, o) s.heap H locs → lv_has ls 4 [(0, .ref th), (1, .int p1), (2, .int p2)] → f_X7_row_34 K z th p1 p2 rA s0 s1 = some rf → W p l e (headSpec wsX7_row ({ frames := 1, cells := 0, slots := 0, locals := 22 })).room s m ([.ref th, .int p1, .int p2] : List Value).toArray below meth cd H locs 0 0 (MQ below (va_Qv (fun (_ : Unit) => True) (fun _ => zB D cy base K L (c, rf, o)) (zA base)) ([.ref th, .int p1, .int p2] : List Value).toArray s 0 0 (zA base)) (F0 m 34 ls [.int s1, .ref s0]) := by
    intro rA H locs ls s0 s1 hk_s0 hC hl hf
    unfold f_X7_row_34 at hf
    refine lv_iconst (v := 2) hx hb dX7_row_34 (by decide) ?_
    obtain ⟨x8, r9, hc7, hf⟩ := zb2_inv hf
    refine z_ci (z_rV (As := [.int s1, .int 2]) (rest := []) ⟨hx, hb, hml, hown, hts⟩ (c_X7_throwsIf (l := l) (D := D) (cy := cy) (base := base) (st := st) (K := K) (L := L) (c := c) (r := rA) (o := o) (z := z) s0 s1 2 hk_s0 hc7) (cwV 2 hts gX7_row_X7_throwsIf rfl rfl rfl (by decide +kernel) ⟨Nat.le_of_ble_eq_true rfl, Nat.le_of_ble_eq_true rfl⟩) hG hC (zC.recv (ci := 7) (fs := _) hK hC (by rw [hk_s0]; decide) (by rw [hk_s0]; exact zc_7 cy _ _) rfl) rfl hl.1 rfl (lv_room (Nat.le_of_ble_eq_true rfl)) dX7_row_35 ⟨Nat.le_of_ble_eq_true rfl, Nat.le_of_ble_eq_true rfl⟩) hC (fun H locs hC => ?_)
    refine lv_if_ne (tgt := 61) hx hb dX7_row_38 (by decide) (fun h21 => ?_) (fun h21 => ?_)
    · have hf := zif_f hf h21
      exact z_vretM hx hb hr hlocks hC hf dX7_row_61
    · have hf := zif_t hf h21
      refine lv_aload_n hx hb dX7_row_41 rfl (lv_at hl 0 rfl) ?_
      refine lv_aload_n hx hb dX7_row_42 rfl (lv_at hl 0 rfl) ?_
      refine zg_7_37 hx hb hts hi7 hown hK hC hk_th w1 dX7_row_43 ?_
      refine lv_if_eq (tgt := 53) hx hb dX7_row_46 (by decide) (fun h20 => ?_) (fun h20 => ?_)
      · have hf := zif_t hf h20
        refine lv_iconst (v := 0) hx hb dX7_row_53 (by decide) ?_
        exact J54 _ _ _ _ th 0 hk_th hC (lv_sub hl [0, 1, 2] rfl) hf
      · have hf := zif_f hf h20
        refine lv_iconst (v := 1) hx hb dX7_row_49 (by decide) ?_
        refine lv_goto (tgt := 54) hx hb dX7_row_50 (by decide) ?_
        exact J54 _ _ _ _ th 1 hk_th hC (lv_sub hl [0, 1, 2] rfl) hf
  have J29 : ∀ (rA : zS) (H : Heap) (locs : List Loc) (ls : Array Slot) (s0 : Nat), K s0 = 7 → zC D cy base K L (c, rA, o) s.heap H locs → lv_has ls 4 [(0, .ref th), (1, .int p1), (2, .int p2)] → f_X7_row_29 K z th p1 p2 rA s0 = some rf → W p l e (headSpec wsX7_row ({ frames := 1, cells := 0, slots := 0, locals := 22 })).room s m ([.ref th, .int p1, .int p2] : List Value).toArray below meth cd H locs 0 0 (MQ below (va_Qv (fun (_ : Unit) => True) (fun _ => zB D cy base K L (c, rf, o)) (zA base)) ([.ref th, .int p1, .int p2] : List Value).toArray s 0 0 (zA base)) (F0 m 29 ls [.ref s0]) := by
    intro rA H locs ls s0 hk_s0 hC hl hf
    unfold f_X7_row_29 at hf
    refine lv_iconst (v := 1) hx hb dX7_row_29 (by decide) ?_
    refine lv_goto (tgt := 34) hx hb dX7_row_30 (by decide) ?_
    exact J34 _ _ _ _ s0 1 hk_s0 hC (lv_sub hl [0, 1, 2] rfl) hf
  unfold f_X7_row at hf
  refine lv_aload_n hx hb dX7_row_0 rfl (lv_at hl 0 rfl) ?_
  refine lv_iconst (v := 0) hx hb dX7_row_1 (by decide) ?_
  obtain ⟨r1, er1, hf⟩ := zlet_inv hf
  refine zp_7_0 hx hb hts hi7 hown hK hC hk_th w0 er1 dX7_row_2 (fun H locs hC => ?_)
  refine lv_aload_n hx hb dX7_row_5 rfl (lv_at hl 0 rfl) ?_
  refine lv_iload_n hx hb dX7_row_6 rfl (lv_at hl 1 rfl) ?_
  obtain ⟨x3, hc2, hf⟩ := zb_inv hf
  refine z_ci (z_rS (b := 0) (As := [.int p1]) (rest := [.ref th]) ⟨hx, hb, hml, hown, hts⟩ (c_X7_noRow (l := l) (D := D) (cy := cy) (base := base) (st := st) (K := K) (L := L) (c := c) (r := r1) (o := o) (z := z) p1  hc2) (va_cwS 1 hts gX7_row_X7_noRow rfl rfl rfl (by decide +kernel) ⟨Nat.le_of_ble_eq_true rfl, Nat.le_of_ble_eq_true rfl⟩) hG hC rfl hl.1 rfl (lv_room (Nat.le_of_ble_eq_true rfl)) dX7_row_7 ⟨Nat.le_of_ble_eq_true rfl, Nat.le_of_ble_eq_true rfl⟩) hC (fun H locs hC => ?_)
  refine lv_iconst (v := 1) hx hb dX7_row_10 (by decide) ?_
  obtain ⟨x5, r6, hc4, hf⟩ := zb2_inv hf
  refine z_ci (z_rV (As := [.int x3, .int 1]) (rest := []) ⟨hx, hb, hml, hown, hts⟩ (c_X7_throwsIf (l := l) (D := D) (cy := cy) (base := base) (st := st) (K := K) (L := L) (c := c) (r := r1) (o := o) (z := z) th x3 1 hk_th hc4) (cwV 2 hts gX7_row_X7_throwsIf rfl rfl rfl (by decide +kernel) ⟨Nat.le_of_ble_eq_true rfl, Nat.le_of_ble_eq_true rfl⟩) hG hC (zC.recv (ci := 7) (fs := _) hK hC (by rw [hk_th]; decide) (by rw [hk_th]; exact zc_7 cy _ _) rfl) rfl hl.1 rfl (lv_room (Nat.le_of_ble_eq_true rfl)) dX7_row_11 ⟨Nat.le_of_ble_eq_true rfl, Nat.le_of_ble_eq_true rfl⟩) hC (fun H locs hC => ?_)
  refine lv_if_ne (tgt := 61) hx hb dX7_row_14 (by decide) (fun h24 => ?_) (fun h24 => ?_)
  · have hf := zif_f hf h24
    exact z_vretM hx hb hr hlocks hC hf dX7_row_61
  · have hf := zif_t hf h24
    refine lv_aload_n hx hb dX7_row_17 rfl (lv_at hl 0 rfl) ?_
    refine lv_iload_n hx hb dX7_row_18 rfl (lv_at hl 2 rfl) ?_
    refine lv_if_lt (tgt := 29) hx hb dX7_row_19 (by decide) (fun h23 => ?_) (fun h23 => ?_)
    · have hf := zif_t hf h23
      exact J29 _ _ _ _ th hk_th hC (lv_sub hl [0, 1, 2] rfl) hf
    · have hf := zif_f hf h23
      refine lv_iload_n hx hb dX7_row_22 rfl (lv_at hl 2 rfl) ?_
      refine lv_sipush (v := 200) hx hb dX7_row_23 (by decide) ?_
      refine lv_icmp_le (tgt := 33) hx hb dX7_row_26 (by decide) (fun h22 => ?_) (fun h22 => ?_)
      · have hf := zif_t hf h22
        refine lv_iconst (v := 0) hx hb dX7_row_33 (by decide) ?_
        exact J34 _ _ _ _ th 0 hk_th hC (lv_sub hl [0, 1, 2] rfl) hf
      · have hf := zif_f hf h22
        exact J29 _ _ _ _ th hk_th hC (lv_sub hl [0, 1, 2] rfl) hf
def f_X7_thrown (K : Nat → Nat) (z : Nat) (r : zS) (th : Nat) : Option Int32 :=
  some (zi r 0 th 0)
set_option maxRecDepth 100000 in
set_option maxHeartbeats 4000000 in
theorem c_X7_thrown {l : Launch} {D : va_G} {cy : Nat → ClassId} {base : Nat} {st : Nat → Nat} {K : Nat → Nat} {L : List Nat} {c r : zS} {o : Int64} {z : Nat} (th : Nat) {rv : Int32}  (hk_th : K th = 7) (hf : f_X7_thrown K z r th = some rv) : Met l yX7_thrown wsX7_thrown ({ frames := 0, cells := 0, slots := 0, locals := 0 }) (va_Pc [.ref th] (zGW zts0 zns0 D cy base st K L (c, r, o))) (va_Qi (fun (rr : Int32) (_ : Unit) => rr = rv) (fun _ => zB D cy base K L (c, r, o)) (zA base)) 0 0 (zA base) := by
  refine Met.ofW (cc := cX7_thrown) (maxL := 1) (ret := (some .int)) (by decide) rfl ?_
  intro p e s m args below meth cd s₁ B hml hv
  obtain ⟨rfl, hG⟩ := hv
  have hx := B.exec
  have hb := B.bytes
  have hr := B.returns
  have hts := atoms_spec (ws := wsX7_thrown) B.pre
  have hown : s.vm.findClass RX7 = some m.cls := findClass_of_methodNamed B.named
  have hlocks := B.notSynchronized
  have hC := hG.enter
  have hK := hG.2.2.2.1
  have hi7 : ∀ w ∈ wsX70, w ∈ wsX7_thrown := by decide +kernel
  have w0 := hts (.fieldLink RX7 127 "MarketSquareModel" "thrown" "I") (by decide +kernel)
  have hl := lv_entry ([.ref th]) (n := 1) (Nat.le_of_ble_eq_true rfl)
  rw [lg_entry_eq]
  generalize (lg_sl ([.ref th]) ++ List.replicate (1 - (lg_sl ([.ref th])).length) Slot.unset).toArray = ls at hl ⊢
  have hl : lv_has ls 1 [(0, .ref th)] := hl
  unfold f_X7_thrown at hf
  refine lv_aload_n hx hb dX7_thrown_0 rfl (lv_at hl 0 rfl) ?_
  refine zg_7_0 hx hb hts hi7 hown hK hC hk_th w0 dX7_thrown_1 ?_
  exact z_iret hx hb hr hlocks hC hf dX7_thrown_4
def f_X7_isRow (K : Nat → Nat) (z : Nat) (r : zS) (th : Nat) (p1 : Int32) : Option Int32 :=
  zb (f_X7_noRow K z r p1) fun x2 => (if x2 = 0 then zn K (zr r 1 th 0) 101 fun a3 => zx p1 40 <| (if (zi r 101 a3 (Int32.toNatClampNeg p1)) ≤ 0 then some 0 else some 1) else some 0)
set_option maxRecDepth 100000 in
set_option maxHeartbeats 4000000 in
theorem c_X7_isRow {l : Launch} {D : va_G} {cy : Nat → ClassId} {base : Nat} {st : Nat → Nat} {K : Nat → Nat} {L : List Nat} {c r : zS} {o : Int64} {z : Nat} (th : Nat) (p1 : Int32) {rv : Int32}  (hk_th : K th = 7) (hf : f_X7_isRow K z r th p1 = some rv) : Met l yX7_isRow wsX7_isRow ({ frames := 1, cells := 0, slots := 0, locals := 20 }) (va_Pc [.ref th, .int p1] (zGW zts0 zns0 D cy base st K L (c, r, o))) (va_Qi (fun (rr : Int32) (_ : Unit) => rr = rv) (fun _ => zB D cy base K L (c, r, o)) (zA base)) 0 0 (zA base) := by
  refine Met.ofW (cc := cX7_isRow) (maxL := 2) (ret := (some .boolean)) (by decide) rfl ?_
  intro p e s m args below meth cd s₁ B hml hv
  obtain ⟨rfl, hG⟩ := hv
  have hx := B.exec
  have hb := B.bytes
  have hr := B.returns
  have hts := atoms_spec (ws := wsX7_isRow) B.pre
  have hown : s.vm.findClass RX7 = some m.cls := findClass_of_methodNamed B.named
  have hlocks := B.notSynchronized
  have hC := hG.enter
  have hK := hG.2.2.2.1
  have hi7 : ∀ w ∈ wsX70, w ∈ wsX7_isRow := by decide +kernel
  have w0 := hts (.fieldLink RX7 9 "MarketSquareModel" "places" "[I") (by decide +kernel)
  have hl := lv_entry ([.ref th, .int p1]) (n := 2) (Nat.le_of_ble_eq_true rfl)
  rw [lg_entry_eq]
  generalize (lg_sl ([.ref th, .int p1]) ++ List.replicate (2 - (lg_sl ([.ref th, .int p1])).length) Slot.unset).toArray = ls at hl ⊢
  have hl : lv_has ls 2 [(0, .ref th), (1, .int p1)] := hl
  unfold f_X7_isRow at hf
  refine lv_iload_n hx hb dX7_isRow_0 rfl (lv_at hl 1 rfl) ?_
  obtain ⟨x2, hc1, hf⟩ := zb_inv hf
  refine z_ci (z_rS (b := 0) (As := [.int p1]) (rest := []) ⟨hx, hb, hml, hown, hts⟩ (c_X7_noRow (l := l) (D := D) (cy := cy) (base := base) (st := st) (K := K) (L := L) (c := c) (r := r) (o := o) (z := z) p1  hc1) (va_cwS 1 hts gX7_isRow_X7_noRow rfl rfl rfl (by decide +kernel) ⟨Nat.le_of_ble_eq_true rfl, Nat.le_of_ble_eq_true rfl⟩) hG hC rfl hl.1 rfl (lv_room (Nat.le_of_ble_eq_true rfl)) dX7_isRow_1 ⟨Nat.le_of_ble_eq_true rfl, Nat.le_of_ble_eq_true rfl⟩) hC (fun H locs hC => ?_)
  refine lv_if_ne (tgt := 20) hx hb dX7_isRow_4 (by decide) (fun h5 => ?_) (fun h5 => ?_)
  · have hf := zif_f hf h5
    refine lv_iconst (v := 0) hx hb dX7_isRow_20 (by decide) ?_
    exact z_zret hx hb hr hlocks hC (Or.inl rfl) hf dX7_isRow_21
  · have hf := zif_t hf h5
    refine lv_aload_n hx hb dX7_isRow_7 rfl (lv_at hl 0 rfl) ?_
    refine zg_7_1 hx hb hts hi7 hown hK hC hk_th w0 dX7_isRow_8 ?_
    obtain ⟨a3, ea3, hk_a3, hf⟩ := zn_inv hf
    refine z_ref ea3 ?_
    refine lv_iload_n hx hb dX7_isRow_11 rfl (lv_at hl 1 rfl) ?_
    obtain ⟨hix, hf⟩ := zx_inv hf
    refine xg_101 hx hb hK hC hk_a3 hix dX7_isRow_12 ?_
    refine lv_if_le (tgt := 20) hx hb dX7_isRow_13 (by decide) (fun h4 => ?_) (fun h4 => ?_)
    · have hf := zif_t hf h4
      refine lv_iconst (v := 0) hx hb dX7_isRow_20 (by decide) ?_
      exact z_zret hx hb hr hlocks hC (Or.inl rfl) hf dX7_isRow_21
    · have hf := zif_f hf h4
      refine lv_iconst (v := 1) hx hb dX7_isRow_16 (by decide) ?_
      refine lv_goto (tgt := 21) hx hb dX7_isRow_17 (by decide) ?_
      exact z_zret hx hb hr hlocks hC (Or.inr rfl) hf dX7_isRow_21
def f_X7_mark_136 (K : Nat → Nat) (z : Nat) (th : Nat) (p1 : Int32) (p2 : Int32) (p3 : Int32) (p4 : Int32) (rA : zS) (v6 : Int32) : Option (Int32 × zS) :=
  (if v6 = p4 then some (0, rA) else some (1, rA))
def f_X7_mark_113 (K : Nat → Nat) (z : Nat) (th : Nat) (p1 : Int32) (p2 : Int32) (p3 : Int32) (p4 : Int32) (rA : zS) (v5 : Int32) (s0 : Int32) : Option (Int32 × zS) :=
  (if s0 = p4 then f_X7_mark_136 K z th p1 p2 p3 p4 rA s0 else zn K (zr rA 2 th 0) 102 fun a16 => zx v5 8000 <| zx v5 8000 <| zlet (zui rA 102 a16 (Int32.toNatClampNeg v5) (Int8.toInt32 (Int32.toInt8 (Int8.toInt32 (Int32.toInt8 ((zi rA 102 a16 (Int32.toNatClampNeg v5)) ^^^ ((1 : Int32) <<< (p3 &&& 31)))))))) fun r17 => f_X7_mark_136 K z th p1 p2 p3 p4 r17 s0)
def f_X7_mark_75 (K : Nat → Nat) (z : Nat) (th : Nat) (p1 : Int32) (p2 : Int32) (p3 : Int32) (p4 : Int32) (rA : zS) (s0 : Nat) (s1 : Int32) : Option (Int32 × zS) :=
  zb2 (f_X7_throwsIf K z rA s0 s1 3) fun x11 r12 => (if x11 = 0 then zlet ((200 * p1) + p2) fun x13 => zn K (zr r12 2 th 0) 102 fun a14 => zx x13 8000 <| (if (((zi r12 102 a14 (Int32.toNatClampNeg x13)) >>> (p3 &&& 31)) &&& 1) = 1 then f_X7_mark_113 K z th p1 p2 p3 p4 r12 x13 1 else f_X7_mark_113 K z th p1 p2 p3 p4 r12 x13 0) else some (0, r12))
def f_X7_mark_55 (K : Nat → Nat) (z : Nat) (th : Nat) (p1 : Int32) (p2 : Int32) (p3 : Int32) (p4 : Int32) (rA : zS) (s0 : Nat) (s1 : Int32) : Option (Int32 × zS) :=
  zb2 (f_X7_throwsIf K z rA s0 s1 2) fun x8 r9 => (if x8 = 0 then (if (zi r9 37 th 0) = 0 then f_X7_mark_75 K z th p1 p2 p3 p4 r9 th 0 else f_X7_mark_75 K z th p1 p2 p3 p4 r9 th 1) else some (0, r9))
def f_X7_mark_50 (K : Nat → Nat) (z : Nat) (th : Nat) (p1 : Int32) (p2 : Int32) (p3 : Int32) (p4 : Int32) (rA : zS) (s0 : Nat) : Option (Int32 × zS) :=
  f_X7_mark_55 K z th p1 p2 p3 p4 rA s0 1
def f_X7_mark_33 (K : Nat → Nat) (z : Nat) (th : Nat) (p1 : Int32) (p2 : Int32) (p3 : Int32) (p4 : Int32) (rA : zS) (s0 : Nat) (s1 : Int32) : Option (Int32 × zS) :=
  zb2 (f_X7_throwsIf K z rA s0 s1 1) fun x5 r6 => (if x5 = 0 then (if p3 < 0 then f_X7_mark_50 K z th p1 p2 p3 p4 r6 th else (if p3 ≤ 2 then f_X7_mark_55 K z th p1 p2 p3 p4 r6 th 0 else f_X7_mark_50 K z th p1 p2 p3 p4 r6 th)) else some (0, r6))
def f_X7_mark_28 (K : Nat → Nat) (z : Nat) (th : Nat) (p1 : Int32) (p2 : Int32) (p3 : Int32) (p4 : Int32) (rA : zS) (s0 : Nat) : Option (Int32 × zS) :=
  f_X7_mark_33 K z th p1 p2 p3 p4 rA s0 1
def f_X7_mark (K : Nat → Nat) (z : Nat) (r : zS) (th : Nat) (p1 : Int32) (p2 : Int32) (p3 : Int32) (p4 : Int32) : Option (Int32 × zS) :=
  zlet (zui r 0 th 0 0) fun r1 => zb (f_X7_isRow K z r1 th p1) fun x3 => (if x3 = 0 then f_X7_mark_28 K z th p1 p2 p3 p4 r1 th else (if p2 < 0 then f_X7_mark_28 K z th p1 p2 p3 p4 r1 th else zn K (zr r1 1 th 0) 101 fun a26 => zx p1 40 <| (if p2 < (zi r1 101 a26 (Int32.toNatClampNeg p1)) then f_X7_mark_33 K z th p1 p2 p3 p4 r1 th 0 else f_X7_mark_28 K z th p1 p2 p3 p4 r1 th)))
set_option maxRecDepth 100000 in
set_option maxHeartbeats 4000000 in
theorem c_X7_mark {l : Launch} {D : va_G} {cy : Nat → ClassId} {base : Nat} {st : Nat → Nat} {K : Nat → Nat} {L : List Nat} {c r : zS} {o : Int64} {z : Nat} (th : Nat) (p1 : Int32) (p2 : Int32) (p3 : Int32) (p4 : Int32) {rv : Int32} {rf : zS}  (hk_th : K th = 7) (hf : f_X7_mark K z r th p1 p2 p3 p4 = some (rv, rf)) : Met l yX7_mark wsX7_mark ({ frames := 2, cells := 0, slots := 0, locals := 41 }) (va_Pc [.ref th, .int p1, .int p2, .int p3, .int p4] (zGW zts0 zns0 D cy base st K L (c, r, o))) (va_Qi (fun (rr : Int32) (_ : Unit) => rr = rv) (fun _ => zB D cy base K L (c, rf, o)) (zA base)) 0 0 (zA base) := by
  refine Met.ofW (cc := cX7_mark) (maxL := 7) (ret := (some .boolean)) (by decide) rfl ?_
  intro p e s m args below meth cd s₁ B hml hv
  obtain ⟨rfl, hG⟩ := hv
  have hx := B.exec
  have hb := B.bytes
  have hr := B.returns
  have hts := atoms_spec (ws := wsX7_mark) B.pre
  have hown : s.vm.findClass RX7 = some m.cls := findClass_of_methodNamed B.named
  have hlocks := B.notSynchronized
  have hC := hG.enter
  have hK := hG.2.2.2.1
  have hi7 : ∀ w ∈ wsX70, w ∈ wsX7_mark := by decide +kernel
  have w0 := hts (.fieldLink RX7 127 "MarketSquareModel" "thrown" "I") (by decide +kernel)
  have w1 := hts (.fieldLink RX7 214 "MarketSquareModel" "time" "I") (by decide +kernel)
  have w2 := hts (.fieldLink RX7 13 "MarketSquareModel" "marks" "[B") (by decide +kernel)
  have w3 := hts (.fieldLink RX7 9 "MarketSquareModel" "places" "[I") (by decide +kernel)
  have hl := lv_entry ([.ref th, .int p1, .int p2, .int p3, .int p4]) (n := 7) (Nat.le_of_ble_eq_true rfl)
  rw [lg_entry_eq]
  generalize (lg_sl ([.ref th, .int p1, .int p2, .int p3, .int p4]) ++ List.replicate (7 - (lg_sl ([.ref th, .int p1, .int p2, .int p3, .int p4])).length) Slot.unset).toArray = ls at hl ⊢
  have hl : lv_has ls 7 [(0, .ref th), (1, .int p1), (2, .int p2), (3, .int p3), (4, .int p4)] := hl
  have J136 : ∀ (rA : zS) (H : Heap) (locs : List Loc) (ls : Array Slot) (v6 : Int32), zC D cy base K L (c, rA, o) s.heap H locs → lv_has ls 7 [(0, .ref th), (1, .int p1), (2, .int p2), (3, .int p3), (4, .int p4), (6, .int v6)] → f_X7_mark_136 K z th p1 p2 p3 p4 rA v6 = some (rv, rf) → W p l e (headSpec wsX7_mark ({ frames := 2, cells := 0, slots := 0, locals := 41 })).room s m ([.ref th, .int p1, .int p2, .int p3, .int p4] : List Value).toArray below meth cd H locs 0 0 (MQ below (va_Qi (fun (rr : Int32) (_ : Unit) => rr = rv) (fun _ => zB D cy base K L (c, rf, o)) (zA base)) ([.ref th, .int p1, .int p2, .int p3, .int p4] : List Value).toArray s 0 0 (zA base)) (F0 m 136 ls []) := by
    intro rA H locs ls v6 hC hl hf
    unfold f_X7_mark_136 at hf
    refine lv_iload hx hb dX7_mark_136 (lv_at hl 5 rfl) ?_
    refine lv_iload hx hb dX7_mark_138 (lv_at hl 4 rfl) ?_
    refine lv_icmp_eq (tgt := 147) hx hb dX7_mark_140 (by decide) (fun h15 => ?_) (fun h15 => ?_)
    · have hf := zif_t hf h15
      refine lv_iconst (v := 0) hx hb dX7_mark_147 (by decide) ?_
      exact z_zretM hx hb hr hlocks hC (Or.inl rfl) hf dX7_mark_148
    · have hf := zif_f hf h15
      refine lv_iconst (v := 1) hx hb dX7_mark_143 (by decide) ?_
      refine lv_goto (tgt := 148) hx hb dX7_mark_144 (by decide) ?_
      exact z_zretM hx hb hr hlocks hC (Or.inr rfl) hf dX7_mark_148
  have J113 : ∀ (rA : zS) (H : Heap) (locs : List Loc) (ls : Array Slot) (v5 : Int32) (s0 : Int32), zC D cy base K L (c, rA, o) s.heap H locs → lv_has ls 7 [(0, .ref th), (1, .int p1), (2, .int p2), (3, .int p3), (4, .int p4), (5, .int v5)] → f_X7_mark_113 K z th p1 p2 p3 p4 rA v5 s0 = some (rv, rf) → W p l e (headSpec wsX7_mark ({ frames := 2, cells := 0, slots := 0, locals := 41 })).room s m ([.ref th, .int p1, .int p2, .int p3, .int p4] : List Value).toArray below meth cd H locs 0 0 (MQ below (va_Qi (fun (rr : Int32) (_ : Unit) => rr = rv) (fun _ => zB D cy base K L (c, rf, o)) (zA base)) ([.ref th, .int p1, .int p2, .int p3, .int p4] : List Value).toArray s 0 0 (zA base)) (F0 m 113 ls [.int s0]) := by
    intro rA H locs ls v5 s0 hC hl hf
    unfold f_X7_mark_113 at hf
    refine lv_istore (lv' := [(6, .int s0), (0, .ref th), (1, .int p1), (2, .int p2), (3, .int p3), (4, .int p4), (5, .int v5)]) hx hb dX7_mark_113 hl (by decide) rfl (fun ls hl => ?_)
    refine lv_iload hx hb dX7_mark_115 (lv_at hl 0 rfl) ?_
    refine lv_iload hx hb dX7_mark_117 (lv_at hl 5 rfl) ?_
    refine lv_icmp_eq (tgt := 136) hx hb dX7_mark_119 (by decide) (fun h18 => ?_) (fun h18 => ?_)
    · have hf := zif_t hf h18
      exact J136 _ _ _ _ s0 hC (lv_sub hl [1, 2, 3, 4, 5, 0] rfl) hf
    · have hf := zif_f hf h18
      refine lv_aload_n hx hb dX7_mark_122 rfl (lv_at hl 1 rfl) ?_
      refine zg_7_2 hx hb hts hi7 hown hK hC hk_th w2 dX7_mark_123 ?_
      obtain ⟨a16, ea16, hk_a16, hf⟩ := zn_inv hf
      refine z_ref ea16 ?_
      refine lv_iload hx hb dX7_mark_126 (lv_at hl 6 rfl) ?_
      refine lv_dup2_11 hx hb dX7_mark_128 rfl rfl ?_
      obtain ⟨hix, hf⟩ := zx_inv hf
      refine xg_102 hx hb hK hC hk_a16 hix dX7_mark_129 ?_
      refine lv_iconst (v := 1) hx hb dX7_mark_130 (by decide) ?_
      refine lv_iload_n hx hb dX7_mark_131 rfl (lv_at hl 4 rfl) ?_
      refine lv_ishl hx hb dX7_mark_132 ?_
      refine lv_ixor hx hb dX7_mark_133 ?_
      refine lv_i2b (v := (Int8.toInt32 (Int32.toInt8 ((zi rA 102 a16 (Int32.toNatClampNeg v5)) ^^^ ((1 : Int32) <<< (p3 &&& 31)))))) hx hb dX7_mark_134 rfl ?_
      obtain ⟨hix, hf⟩ := zx_inv hf
      obtain ⟨r17, er17, hf⟩ := zlet_inv hf
      refine xp_102 hx hb hK hC hk_a16 hix er17 dX7_mark_135 (fun H locs hC => ?_)
      exact J136 _ _ _ _ s0 hC (lv_sub hl [1, 2, 3, 4, 5, 0] rfl) hf
  have J75 : ∀ (rA : zS) (H : Heap) (locs : List Loc) (ls : Array Slot) (s0 : Nat) (s1 : Int32), K s0 = 7 → zC D cy base K L (c, rA, o) s.heap H locs → lv_has ls 7 [(0, .ref th), (1, .int p1), (2, .int p2), (3, .int p3), (4, .int p4)] → f_X7_mark_75 K z th p1 p2 p3 p4 rA s0 s1 = some (rv, rf) → W p l e (headSpec wsX7_mark ({ frames := 2, cells := 0, slots := 0, locals := 41 })).room s m ([.ref th, .int p1, .int p2, .int p3, .int p4] : List Value).toArray below meth cd H locs 0 0 (MQ below (va_Qi (fun (rr : Int32) (_ : Unit) => rr = rv) (fun _ => zB D cy base K L (c, rf, o)) (zA base)) ([.ref th, .int p1, .int p2, .int p3, .int p4] : List Value).toArray s 0 0 (zA base)) (F0 m 75 ls [.int s1, .ref s0]) := by
    intro rA H locs ls s0 s1 hk_s0 hC hl hf
    unfold f_X7_mark_75 at hf
    refine lv_iconst (v := 3) hx hb dX7_mark_75 (by decide) ?_
    obtain ⟨x11, r12, hc10, hf⟩ := zb2_inv hf
    refine z_ci (z_rV (As := [.int s1, .int 3]) (rest := []) ⟨hx, hb, hml, hown, hts⟩ (c_X7_throwsIf (l := l) (D := D) (cy := cy) (base := base) (st := st) (K := K) (L := L) (c := c) (r := rA) (o := o) (z := z) s0 s1 3 hk_s0 hc10) (cwV 2 hts gX7_mark_X7_throwsIf rfl rfl rfl (by decide +kernel) ⟨Nat.le_of_ble_eq_true rfl, Nat.le_of_ble_eq_true rfl⟩) hG hC (zC.recv (ci := 7) (fs := _) hK hC (by rw [hk_s0]; decide) (by rw [hk_s0]; exact zc_7 cy _ _) rfl) rfl hl.1 rfl (lv_room (Nat.le_of_ble_eq_true rfl)) dX7_mark_76 ⟨Nat.le_of_ble_eq_true rfl, Nat.le_of_ble_eq_true rfl⟩) hC (fun H locs hC => ?_)
    refine lv_if_eq (tgt := 84) hx hb dX7_mark_79 (by decide) (fun h20 => ?_) (fun h20 => ?_)
    · have hf := zif_t hf h20
      refine lv_sipush (v := 200) hx hb dX7_mark_84 (by decide) ?_
      refine lv_iload_n hx hb dX7_mark_87 rfl (lv_at hl 1 rfl) ?_
      refine lv_imul hx hb dX7_mark_88 ?_
      refine lv_iload_n hx hb dX7_mark_89 rfl (lv_at hl 2 rfl) ?_
      refine lv_iadd hx hb dX7_mark_90 ?_
      obtain ⟨x13, ex13, hf⟩ := zlet_inv hf
      refine z_name ex13 ?_
      refine lv_istore (lv' := [(5, .int x13), (0, .ref th), (1, .int p1), (2, .int p2), (3, .int p3), (4, .int p4)]) hx hb dX7_mark_91 hl (by decide) rfl (fun ls hl => ?_)
      refine lv_aload_n hx hb dX7_mark_93 rfl (lv_at hl 1 rfl) ?_
      refine zg_7_2 hx hb hts hi7 hown hK hC hk_th w2 dX7_mark_94 ?_
      obtain ⟨a14, ea14, hk_a14, hf⟩ := zn_inv hf
      refine z_ref ea14 ?_
      refine lv_iload hx hb dX7_mark_97 (lv_at hl 0 rfl) ?_
      obtain ⟨hix, hf⟩ := zx_inv hf
      refine xg_102 hx hb hK hC hk_a14 hix dX7_mark_99 ?_
      refine lv_iload_n hx hb dX7_mark_100 rfl (lv_at hl 4 rfl) ?_
      refine lv_ishr hx hb dX7_mark_101 ?_
      refine lv_iconst (v := 1) hx hb dX7_mark_102 (by decide) ?_
      refine lv_iand hx hb dX7_mark_103 ?_
      refine lv_iconst (v := 1) hx hb dX7_mark_104 (by decide) ?_
      refine lv_icmp_ne (tgt := 112) hx hb dX7_mark_105 (by decide) (fun h19 => ?_) (fun h19 => ?_)
      · have hf := zif_f hf h19
        refine lv_iconst (v := 0) hx hb dX7_mark_112 (by decide) ?_
        exact J113 _ _ _ _ x13 0 hC (lv_sub hl [1, 2, 3, 4, 5, 0] rfl) hf
      · have hf := zif_t hf h19
        refine lv_iconst (v := 1) hx hb dX7_mark_108 (by decide) ?_
        refine lv_goto (tgt := 113) hx hb dX7_mark_109 (by decide) ?_
        exact J113 _ _ _ _ x13 1 hC (lv_sub hl [1, 2, 3, 4, 5, 0] rfl) hf
    · have hf := zif_f hf h20
      refine lv_iconst (v := 0) hx hb dX7_mark_82 (by decide) ?_
      exact z_zretM hx hb hr hlocks hC (Or.inl rfl) hf dX7_mark_83
  have J55 : ∀ (rA : zS) (H : Heap) (locs : List Loc) (ls : Array Slot) (s0 : Nat) (s1 : Int32), K s0 = 7 → zC D cy base K L (c, rA, o) s.heap H locs → lv_has ls 7 [(0, .ref th), (1, .int p1), (2, .int p2), (3, .int p3), (4, .int p4)] → f_X7_mark_55 K z th p1 p2 p3 p4 rA s0 s1 = some (rv, rf) → W p l e (headSpec wsX7_mark ({ frames := 2, cells := 0, slots := 0, locals := 41 })).room s m ([.ref th, .int p1, .int p2, .int p3, .int p4] : List Value).toArray below meth cd H locs 0 0 (MQ below (va_Qi (fun (rr : Int32) (_ : Unit) => rr = rv) (fun _ => zB D cy base K L (c, rf, o)) (zA base)) ([.ref th, .int p1, .int p2, .int p3, .int p4] : List Value).toArray s 0 0 (zA base)) (F0 m 55 ls [.int s1, .ref s0]) := by
    intro rA H locs ls s0 s1 hk_s0 hC hl hf
    unfold f_X7_mark_55 at hf
    refine lv_iconst (v := 2) hx hb dX7_mark_55 (by decide) ?_
    obtain ⟨x8, r9, hc7, hf⟩ := zb2_inv hf
    refine z_ci (z_rV (As := [.int s1, .int 2]) (rest := []) ⟨hx, hb, hml, hown, hts⟩ (c_X7_throwsIf (l := l) (D := D) (cy := cy) (base := base) (st := st) (K := K) (L := L) (c := c) (r := rA) (o := o) (z := z) s0 s1 2 hk_s0 hc7) (cwV 2 hts gX7_mark_X7_throwsIf rfl rfl rfl (by decide +kernel) ⟨Nat.le_of_ble_eq_true rfl, Nat.le_of_ble_eq_true rfl⟩) hG hC (zC.recv (ci := 7) (fs := _) hK hC (by rw [hk_s0]; decide) (by rw [hk_s0]; exact zc_7 cy _ _) rfl) rfl hl.1 rfl (lv_room (Nat.le_of_ble_eq_true rfl)) dX7_mark_56 ⟨Nat.le_of_ble_eq_true rfl, Nat.le_of_ble_eq_true rfl⟩) hC (fun H locs hC => ?_)
    refine lv_if_ne (tgt := 82) hx hb dX7_mark_59 (by decide) (fun h22 => ?_) (fun h22 => ?_)
    · have hf := zif_f hf h22
      refine lv_iconst (v := 0) hx hb dX7_mark_82 (by decide) ?_
      exact z_zretM hx hb hr hlocks hC (Or.inl rfl) hf dX7_mark_83
    · have hf := zif_t hf h22
      refine lv_aload_n hx hb dX7_mark_62 rfl (lv_at hl 0 rfl) ?_
      refine lv_aload_n hx hb dX7_mark_63 rfl (lv_at hl 0 rfl) ?_
      refine zg_7_37 hx hb hts hi7 hown hK hC hk_th w1 dX7_mark_64 ?_
      refine lv_if_eq (tgt := 74) hx hb dX7_mark_67 (by decide) (fun h21 => ?_) (fun h21 => ?_)
      · have hf := zif_t hf h21
        refine lv_iconst (v := 0) hx hb dX7_mark_74 (by decide) ?_
        exact J75 _ _ _ _ th 0 hk_th hC (lv_sub hl [0, 1, 2, 3, 4] rfl) hf
      · have hf := zif_f hf h21
        refine lv_iconst (v := 1) hx hb dX7_mark_70 (by decide) ?_
        refine lv_goto (tgt := 75) hx hb dX7_mark_71 (by decide) ?_
        exact J75 _ _ _ _ th 1 hk_th hC (lv_sub hl [0, 1, 2, 3, 4] rfl) hf
  have J50 : ∀ (rA : zS) (H : Heap) (locs : List Loc) (ls : Array Slot) (s0 : Nat), K s0 = 7 → zC D cy base K L (c, rA, o) s.heap H locs → lv_has ls 7 [(0, .ref th), (1, .int p1), (2, .int p2), (3, .int p3), (4, .int p4)] → f_X7_mark_50 K z th p1 p2 p3 p4 rA s0 = some (rv, rf) → W p l e (headSpec wsX7_mark ({ frames := 2, cells := 0, slots := 0, locals := 41 })).room s m ([.ref th, .int p1, .int p2, .int p3, .int p4] : List Value).toArray below meth cd H locs 0 0 (MQ below (va_Qi (fun (rr : Int32) (_ : Unit) => rr = rv) (fun _ => zB D cy base K L (c, rf, o)) (zA base)) ([.ref th, .int p1, .int p2, .int p3, .int p4] : List Value).toArray s 0 0 (zA base)) (F0 m 50 ls [.ref s0]) := by
    intro rA H locs ls s0 hk_s0 hC hl hf
    unfold f_X7_mark_50 at hf
    refine lv_iconst (v := 1) hx hb dX7_mark_50 (by decide) ?_
    refine lv_goto (tgt := 55) hx hb dX7_mark_51 (by decide) ?_
    exact J55 _ _ _ _ s0 1 hk_s0 hC (lv_sub hl [0, 1, 2, 3, 4] rfl) hf
  have J33 : ∀ (rA : zS) (H : Heap) (locs : List Loc) (ls : Array Slot) (s0 : Nat) (s1 : Int32), K s0 = 7 → zC D cy base K L (c, rA, o) s.heap H locs → lv_has ls 7 [(0, .ref th), (1, .int p1), (2, .int p2), (3, .int p3), (4, .int p4)] → f_X7_mark_33 K z th p1 p2 p3 p4 rA s0 s1 = some (rv, rf) → W p l e (headSpec wsX7_mark ({ frames := 2, cells := 0, slots := 0, locals := 41 })).room s m ([.ref th, .int p1, .int p2, .int p3, .int p4] : List Value).toArray below meth cd H locs 0 0 (MQ below (va_Qi (fun (rr : Int32) (_ : Unit) => rr = rv) (fun _ => zB D cy base K L (c, rf, o)) (zA base)) ([.ref th, .int p1, .int p2, .int p3, .int p4] : List Value).toArray s 0 0 (zA base)) (F0 m 33 ls [.int s1, .ref s0]) := by
    intro rA H locs ls s0 s1 hk_s0 hC hl hf
    unfold f_X7_mark_33 at hf
    refine lv_iconst (v := 1) hx hb dX7_mark_33 (by decide) ?_
    obtain ⟨x5, r6, hc4, hf⟩ := zb2_inv hf
    refine z_ci (z_rV (As := [.int s1, .int 1]) (rest := []) ⟨hx, hb, hml, hown, hts⟩ (c_X7_throwsIf (l := l) (D := D) (cy := cy) (base := base) (st := st) (K := K) (L := L) (c := c) (r := rA) (o := o) (z := z) s0 s1 1 hk_s0 hc4) (cwV 2 hts gX7_mark_X7_throwsIf rfl rfl rfl (by decide +kernel) ⟨Nat.le_of_ble_eq_true rfl, Nat.le_of_ble_eq_true rfl⟩) hG hC (zC.recv (ci := 7) (fs := _) hK hC (by rw [hk_s0]; decide) (by rw [hk_s0]; exact zc_7 cy _ _) rfl) rfl hl.1 rfl (lv_room (Nat.le_of_ble_eq_true rfl)) dX7_mark_34 ⟨Nat.le_of_ble_eq_true rfl, Nat.le_of_ble_eq_true rfl⟩) hC (fun H locs hC => ?_)
    refine lv_if_ne (tgt := 82) hx hb dX7_mark_37 (by decide) (fun h25 => ?_) (fun h25 => ?_)
    · have hf := zif_f hf h25
      refine lv_iconst (v := 0) hx hb dX7_mark_82 (by decide) ?_
      exact z_zretM hx hb hr hlocks hC (Or.inl rfl) hf dX7_mark_83
    · have hf := zif_t hf h25
      refine lv_aload_n hx hb dX7_mark_40 rfl (lv_at hl 0 rfl) ?_
      refine lv_iload_n hx hb dX7_mark_41 rfl (lv_at hl 3 rfl) ?_
      refine lv_if_lt (tgt := 50) hx hb dX7_mark_42 (by decide) (fun h24 => ?_) (fun h24 => ?_)
      · have hf := zif_t hf h24
        exact J50 _ _ _ _ th hk_th hC (lv_sub hl [0, 1, 2, 3, 4] rfl) hf
      · have hf := zif_f hf h24
        refine lv_iload_n hx hb dX7_mark_45 rfl (lv_at hl 3 rfl) ?_
        refine lv_iconst (v := 2) hx hb dX7_mark_46 (by decide) ?_
        refine lv_icmp_le (tgt := 54) hx hb dX7_mark_47 (by decide) (fun h23 => ?_) (fun h23 => ?_)
        · have hf := zif_t hf h23
          refine lv_iconst (v := 0) hx hb dX7_mark_54 (by decide) ?_
          exact J55 _ _ _ _ th 0 hk_th hC (lv_sub hl [0, 1, 2, 3, 4] rfl) hf
        · have hf := zif_f hf h23
          exact J50 _ _ _ _ th hk_th hC (lv_sub hl [0, 1, 2, 3, 4] rfl) hf
  have J28 : ∀ (rA : zS) (H : Heap) (locs : List Loc) (ls : Array Slot) (s0 : Nat), K s0 = 7 → zC D cy base K L (c, rA, o) s.heap H locs → lv_has ls 7 [(0, .ref th), (1, .int p1), (2, .int p2), (3, .int p3), (4, .int p4)] → f_X7_mark_28 K z th p1 p2 p3 p4 rA s0 = some (rv, rf) → W p l e (headSpec wsX7_mark ({ frames := 2, cells := 0, slots := 0, locals := 41 })).room s m ([.ref th, .int p1, .int p2, .int p3, .int p4] : List Value).toArray below meth cd H locs 0 0 (MQ below (va_Qi (fun (rr : Int32) (_ : Unit) => rr = rv) (fun _ => zB D cy base K L (c, rf, o)) (zA base)) ([.ref th, .int p1, .int p2, .int p3, .int p4] : List Value).toArray s 0 0 (zA base)) (F0 m 28 ls [.ref s0]) := by
    intro rA H locs ls s0 hk_s0 hC hl hf
    unfold f_X7_mark_28 at hf
    refine lv_iconst (v := 1) hx hb dX7_mark_28 (by decide) ?_
    refine lv_goto (tgt := 33) hx hb dX7_mark_29 (by decide) ?_
    exact J33 _ _ _ _ s0 1 hk_s0 hC (lv_sub hl [0, 1, 2, 3, 4] rfl) hf
  unfold f_X7_mark at hf
  refine lv_aload_n hx hb dX7_mark_0 rfl (lv_at hl 0 rfl) ?_
  refine lv_iconst (v := 0) hx hb dX7_mark_1 (by decide) ?_
  obtain ⟨r1, er1, hf⟩ := zlet_inv hf
  refine zp_7_0 hx hb hts hi7 hown hK hC hk_th w0 er1 dX7_mark_2 (fun H locs hC => ?_)
  refine lv_aload_n hx hb dX7_mark_5 rfl (lv_at hl 0 rfl) ?_
  refine lv_aload_n hx hb dX7_mark_6 rfl (lv_at hl 0 rfl) ?_
  refine lv_iload_n hx hb dX7_mark_7 rfl (lv_at hl 1 rfl) ?_
  obtain ⟨x3, hc2, hf⟩ := zb_inv hf
  refine z_ci (z_rV (As := [.int p1]) (rest := [.ref th]) ⟨hx, hb, hml, hown, hts⟩ (c_X7_isRow (l := l) (D := D) (cy := cy) (base := base) (st := st) (K := K) (L := L) (c := c) (r := r1) (o := o) (z := z) th p1 hk_th hc2) (cwV 1 hts gX7_mark_X7_isRow rfl rfl rfl (by decide +kernel) ⟨Nat.le_of_ble_eq_true rfl, Nat.le_of_ble_eq_true rfl⟩) hG hC (zC.recv (ci := 7) (fs := _) hK hC (by rw [hk_th]; decide) (by rw [hk_th]; exact zc_7 cy _ _) rfl) rfl hl.1 rfl (lv_room (Nat.le_of_ble_eq_true rfl)) dX7_mark_8 ⟨Nat.le_of_ble_eq_true rfl, Nat.le_of_ble_eq_true rfl⟩) hC (fun H locs hC => ?_)
  refine lv_if_eq (tgt := 28) hx hb dX7_mark_11 (by decide) (fun h29 => ?_) (fun h29 => ?_)
  · have hf := zif_t hf h29
    exact J28 _ _ _ _ th hk_th hC (lv_sub hl [0, 1, 2, 3, 4] rfl) hf
  · have hf := zif_f hf h29
    refine lv_iload_n hx hb dX7_mark_14 rfl (lv_at hl 2 rfl) ?_
    refine lv_if_lt (tgt := 28) hx hb dX7_mark_15 (by decide) (fun h28 => ?_) (fun h28 => ?_)
    · have hf := zif_t hf h28
      exact J28 _ _ _ _ th hk_th hC (lv_sub hl [0, 1, 2, 3, 4] rfl) hf
    · have hf := zif_f hf h28
      refine lv_iload_n hx hb dX7_mark_18 rfl (lv_at hl 2 rfl) ?_
      refine lv_aload_n hx hb dX7_mark_19 rfl (lv_at hl 0 rfl) ?_
      refine zg_7_1 hx hb hts hi7 hown hK hC hk_th w3 dX7_mark_20 ?_
      obtain ⟨a26, ea26, hk_a26, hf⟩ := zn_inv hf
      refine z_ref ea26 ?_
      refine lv_iload_n hx hb dX7_mark_23 rfl (lv_at hl 1 rfl) ?_
      obtain ⟨hix, hf⟩ := zx_inv hf
      refine xg_101 hx hb hK hC hk_a26 hix dX7_mark_24 ?_
      refine lv_icmp_lt (tgt := 32) hx hb dX7_mark_25 (by decide) (fun h27 => ?_) (fun h27 => ?_)
      · have hf := zif_t hf h27
        refine lv_iconst (v := 0) hx hb dX7_mark_32 (by decide) ?_
        exact J33 _ _ _ _ th 0 hk_th hC (lv_sub hl [0, 1, 2, 3, 4] rfl) hf
      · have hf := zif_f hf h27
        exact J28 _ _ _ _ th hk_th hC (lv_sub hl [0, 1, 2, 3, 4] rfl) hf
def f_X7_trade_56 (K : Nat → Nat) (z : Nat) (th : Nat) (p1 : Int32) (p2 : Int32) (p3 : Int32) (rA : zS) (s0 : Nat) (s1 : Int32) : Option (Int32 × zS) :=
  zb2 (f_X7_throwsIf K z rA s0 s1 2) fun x6 r7 => (if x6 = 0 then zn K (zr r7 3 th 0) 103 fun a8 => zx (zi r7 7 th 0) 20 <| zlet (zui r7 103 a8 (Int32.toNatClampNeg (zi r7 7 th 0)) p1) fun r9 => zn K (zr r9 4 th 0) 104 fun a10 => zx (zi r9 7 th 0) 20 <| zlet (zui r9 104 a10 (Int32.toNatClampNeg (zi r9 7 th 0)) p2) fun r11 => zn K (zr r11 5 th 0) 105 fun a12 => zx (zi r11 7 th 0) 20 <| zz p3 <| zlet (zui r11 105 a12 (Int32.toNatClampNeg (zi r11 7 th 0)) p3) fun r14 => zlet (zui r14 7 th 0 ((zi r14 7 th 0) + 1)) fun r15 => some (((zi r15 7 th 0) - 1), r15) else some (0, r7))
def f_X7_trade_34 (K : Nat → Nat) (z : Nat) (th : Nat) (p1 : Int32) (p2 : Int32) (p3 : Int32) (rA : zS) (s0 : Nat) (s1 : Int32) : Option (Int32 × zS) :=
  zb2 (f_X7_throwsIf K z rA s0 s1 1) fun x3 r4 => (if x3 = 0 then (if (zi r4 7 th 0) = 20 then f_X7_trade_56 K z th p1 p2 p3 r4 th 1 else f_X7_trade_56 K z th p1 p2 p3 r4 th 0) else some (0, r4))
def f_X7_trade_29 (K : Nat → Nat) (z : Nat) (th : Nat) (p1 : Int32) (p2 : Int32) (p3 : Int32) (rA : zS) (s0 : Nat) : Option (Int32 × zS) :=
  f_X7_trade_34 K z th p1 p2 p3 rA s0 1
def f_X7_trade (K : Nat → Nat) (z : Nat) (r : zS) (th : Nat) (p1 : Int32) (p2 : Int32) (p3 : Int32) : Option (Int32 × zS) :=
  zlet (zui r 0 th 0 0) fun r1 => (if p1 < 0 then f_X7_trade_29 K z th p1 p2 p3 r1 th else (if 1000 < p1 then f_X7_trade_29 K z th p1 p2 p3 r1 th else (if p2 < 1 then f_X7_trade_29 K z th p1 p2 p3 r1 th else (if p2 ≤ 200 then f_X7_trade_34 K z th p1 p2 p3 r1 th 0 else f_X7_trade_29 K z th p1 p2 p3 r1 th))))
set_option maxRecDepth 100000 in
set_option maxHeartbeats 4000000 in
theorem c_X7_trade {l : Launch} {D : va_G} {cy : Nat → ClassId} {base : Nat} {st : Nat → Nat} {K : Nat → Nat} {L : List Nat} {c r : zS} {o : Int64} {z : Nat} (th : Nat) (p1 : Int32) (p2 : Int32) (p3 : Int32) {rv : Int32} {rf : zS}  (hk_th : K th = 7) (hf : f_X7_trade K z r th p1 p2 p3 = some (rv, rf)) : Met l yX7_trade wsX7_trade ({ frames := 1, cells := 0, slots := 0, locals := 22 }) (va_Pc [.ref th, .int p1, .int p2, .int p3] (zGW zts0 zns0 D cy base st K L (c, r, o))) (va_Qi (fun (rr : Int32) (_ : Unit) => rr = rv) (fun _ => zB D cy base K L (c, rf, o)) (zA base)) 0 0 (zA base) := by
  refine Met.ofW (cc := cX7_trade) (maxL := 4) (ret := (some .int)) (by decide) rfl ?_
  intro p e s m args below meth cd s₁ B hml hv
  obtain ⟨rfl, hG⟩ := hv
  have hx := B.exec
  have hb := B.bytes
  have hr := B.returns
  have hts := atoms_spec (ws := wsX7_trade) B.pre
  have hown : s.vm.findClass RX7 = some m.cls := findClass_of_methodNamed B.named
  have hlocks := B.notSynchronized
  have hC := hG.enter
  have hK := hG.2.2.2.1
  have hi7 : ∀ w ∈ wsX70, w ∈ wsX7_trade := by decide +kernel
  have w0 := hts (.fieldLink RX7 127 "MarketSquareModel" "thrown" "I") (by decide +kernel)
  have w1 := hts (.fieldLink RX7 134 "MarketSquareModel" "trades" "I") (by decide +kernel)
  have w2 := hts (.fieldLink RX7 17 "MarketSquareModel" "rates" "[I") (by decide +kernel)
  have w3 := hts (.fieldLink RX7 20 "MarketSquareModel" "limits" "[I") (by decide +kernel)
  have w4 := hts (.fieldLink RX7 23 "MarketSquareModel" "cloth" "[Z") (by decide +kernel)
  have hl := lv_entry ([.ref th, .int p1, .int p2, .int p3]) (n := 4) (Nat.le_of_ble_eq_true rfl)
  rw [lg_entry_eq]
  generalize (lg_sl ([.ref th, .int p1, .int p2, .int p3]) ++ List.replicate (4 - (lg_sl ([.ref th, .int p1, .int p2, .int p3])).length) Slot.unset).toArray = ls at hl ⊢
  have hl : lv_has ls 4 [(0, .ref th), (1, .int p1), (2, .int p2), (3, .int p3)] := hl
  have J56 : ∀ (rA : zS) (H : Heap) (locs : List Loc) (ls : Array Slot) (s0 : Nat) (s1 : Int32), K s0 = 7 → zC D cy base K L (c, rA, o) s.heap H locs → lv_has ls 4 [(0, .ref th), (1, .int p1), (2, .int p2), (3, .int p3)] → f_X7_trade_56 K z th p1 p2 p3 rA s0 s1 = some (rv, rf) → W p l e (headSpec wsX7_trade ({ frames := 1, cells := 0, slots := 0, locals := 22 })).room s m ([.ref th, .int p1, .int p2, .int p3] : List Value).toArray below meth cd H locs 0 0 (MQ below (va_Qi (fun (rr : Int32) (_ : Unit) => rr = rv) (fun _ => zB D cy base K L (c, rf, o)) (zA base)) ([.ref th, .int p1, .int p2, .int p3] : List Value).toArray s 0 0 (zA base)) (F0 m 56 ls [.int s1, .ref s0]) := by
    intro rA H locs ls s0 s1 hk_s0 hC hl hf
    unfold f_X7_trade_56 at hf
    refine lv_iconst (v := 2) hx hb dX7_trade_56 (by decide) ?_
    obtain ⟨x6, r7, hc5, hf⟩ := zb2_inv hf
    refine z_ci (z_rV (As := [.int s1, .int 2]) (rest := []) ⟨hx, hb, hml, hown, hts⟩ (c_X7_throwsIf (l := l) (D := D) (cy := cy) (base := base) (st := st) (K := K) (L := L) (c := c) (r := rA) (o := o) (z := z) s0 s1 2 hk_s0 hc5) (cwV 2 hts gX7_trade_X7_throwsIf rfl rfl rfl (by decide +kernel) ⟨Nat.le_of_ble_eq_true rfl, Nat.le_of_ble_eq_true rfl⟩) hG hC (zC.recv (ci := 7) (fs := _) hK hC (by rw [hk_s0]; decide) (by rw [hk_s0]; exact zc_7 cy _ _) rfl) rfl hl.1 rfl (lv_room (Nat.le_of_ble_eq_true rfl)) dX7_trade_57 ⟨Nat.le_of_ble_eq_true rfl, Nat.le_of_ble_eq_true rfl⟩) hC (fun H locs hC => ?_)
    refine lv_if_eq (tgt := 65) hx hb dX7_trade_60 (by decide) (fun h16 => ?_) (fun h16 => ?_)
    · have hf := zif_t hf h16
      refine lv_aload_n hx hb dX7_trade_65 rfl (lv_at hl 0 rfl) ?_
      refine zg_7_3 hx hb hts hi7 hown hK hC hk_th w2 dX7_trade_66 ?_
      obtain ⟨a8, ea8, hk_a8, hf⟩ := zn_inv hf
      refine z_ref ea8 ?_
      refine lv_aload_n hx hb dX7_trade_69 rfl (lv_at hl 0 rfl) ?_
      refine zg_7_7 hx hb hts hi7 hown hK hC hk_th w1 dX7_trade_70 ?_
      refine lv_iload_n hx hb dX7_trade_73 rfl (lv_at hl 1 rfl) ?_
      obtain ⟨hix, hf⟩ := zx_inv hf
      obtain ⟨r9, er9, hf⟩ := zlet_inv hf
      refine xp_103 hx hb hK hC hk_a8 hix er9 dX7_trade_74 (fun H locs hC => ?_)
      refine lv_aload_n hx hb dX7_trade_75 rfl (lv_at hl 0 rfl) ?_
      refine zg_7_4 hx hb hts hi7 hown hK hC hk_th w3 dX7_trade_76 ?_
      obtain ⟨a10, ea10, hk_a10, hf⟩ := zn_inv hf
      refine z_ref ea10 ?_
      refine lv_aload_n hx hb dX7_trade_79 rfl (lv_at hl 0 rfl) ?_
      refine zg_7_7 hx hb hts hi7 hown hK hC hk_th w1 dX7_trade_80 ?_
      refine lv_iload_n hx hb dX7_trade_83 rfl (lv_at hl 2 rfl) ?_
      obtain ⟨hix, hf⟩ := zx_inv hf
      obtain ⟨r11, er11, hf⟩ := zlet_inv hf
      refine xp_104 hx hb hK hC hk_a10 hix er11 dX7_trade_84 (fun H locs hC => ?_)
      refine lv_aload_n hx hb dX7_trade_85 rfl (lv_at hl 0 rfl) ?_
      refine zg_7_5 hx hb hts hi7 hown hK hC hk_th w4 dX7_trade_86 ?_
      obtain ⟨a12, ea12, hk_a12, hf⟩ := zn_inv hf
      refine z_ref ea12 ?_
      refine lv_aload_n hx hb dX7_trade_89 rfl (lv_at hl 0 rfl) ?_
      refine zg_7_7 hx hb hts hi7 hown hK hC hk_th w1 dX7_trade_90 ?_
      refine lv_iload_n hx hb dX7_trade_93 rfl (lv_at hl 3 rfl) ?_
      obtain ⟨hix, hf⟩ := zx_inv hf
      obtain ⟨hz13, hf⟩ := zz_inv hf
      obtain ⟨r14, er14, hf⟩ := zlet_inv hf
      refine xp_105 hx hb hK hC hk_a12 hix hz13 er14 dX7_trade_94 (fun H locs hC => ?_)
      refine lv_aload_n hx hb dX7_trade_95 rfl (lv_at hl 0 rfl) ?_
      refine lv_dup hx hb dX7_trade_96 rfl ?_
      refine zg_7_7 hx hb hts hi7 hown hK hC hk_th w1 dX7_trade_97 ?_
      refine lv_iconst (v := 1) hx hb dX7_trade_100 (by decide) ?_
      refine lv_iadd hx hb dX7_trade_101 ?_
      obtain ⟨r15, er15, hf⟩ := zlet_inv hf
      refine zp_7_7 hx hb hts hi7 hown hK hC hk_th w1 er15 dX7_trade_102 (fun H locs hC => ?_)
      refine lv_aload_n hx hb dX7_trade_105 rfl (lv_at hl 0 rfl) ?_
      refine zg_7_7 hx hb hts hi7 hown hK hC hk_th w1 dX7_trade_106 ?_
      refine lv_iconst (v := 1) hx hb dX7_trade_109 (by decide) ?_
      refine lv_isub hx hb dX7_trade_110 ?_
      exact z_iretM hx hb hr hlocks hC hf dX7_trade_111
    · have hf := zif_f hf h16
      refine lv_iconst (v := 0) hx hb dX7_trade_63 (by decide) ?_
      exact z_iretM hx hb hr hlocks hC hf dX7_trade_64
  have J34 : ∀ (rA : zS) (H : Heap) (locs : List Loc) (ls : Array Slot) (s0 : Nat) (s1 : Int32), K s0 = 7 → zC D cy base K L (c, rA, o) s.heap H locs → lv_has ls 4 [(0, .ref th), (1, .int p1), (2, .int p2), (3, .int p3)] → f_X7_trade_34 K z th p1 p2 p3 rA s0 s1 = some (rv, rf) → W p l e (headSpec wsX7_trade ({ frames := 1, cells := 0, slots := 0, locals := 22 })).room s m ([.ref th, .int p1, .int p2, .int p3] : List Value).toArray below meth cd H locs 0 0 (MQ below (va_Qi (fun (rr : Int32) (_ : Unit) => rr = rv) (fun _ => zB D cy base K L (c, rf, o)) (zA base)) ([.ref th, .int p1, .int p2, .int p3] : List Value).toArray s 0 0 (zA base)) (F0 m 34 ls [.int s1, .ref s0]) := by
    intro rA H locs ls s0 s1 hk_s0 hC hl hf
    unfold f_X7_trade_34 at hf
    refine lv_iconst (v := 1) hx hb dX7_trade_34 (by decide) ?_
    obtain ⟨x3, r4, hc2, hf⟩ := zb2_inv hf
    refine z_ci (z_rV (As := [.int s1, .int 1]) (rest := []) ⟨hx, hb, hml, hown, hts⟩ (c_X7_throwsIf (l := l) (D := D) (cy := cy) (base := base) (st := st) (K := K) (L := L) (c := c) (r := rA) (o := o) (z := z) s0 s1 1 hk_s0 hc2) (cwV 2 hts gX7_trade_X7_throwsIf rfl rfl rfl (by decide +kernel) ⟨Nat.le_of_ble_eq_true rfl, Nat.le_of_ble_eq_true rfl⟩) hG hC (zC.recv (ci := 7) (fs := _) hK hC (by rw [hk_s0]; decide) (by rw [hk_s0]; exact zc_7 cy _ _) rfl) rfl hl.1 rfl (lv_room (Nat.le_of_ble_eq_true rfl)) dX7_trade_35 ⟨Nat.le_of_ble_eq_true rfl, Nat.le_of_ble_eq_true rfl⟩) hC (fun H locs hC => ?_)
    refine lv_if_ne (tgt := 63) hx hb dX7_trade_38 (by decide) (fun h18 => ?_) (fun h18 => ?_)
    · have hf := zif_f hf h18
      refine lv_iconst (v := 0) hx hb dX7_trade_63 (by decide) ?_
      exact z_iretM hx hb hr hlocks hC hf dX7_trade_64
    · have hf := zif_t hf h18
      refine lv_aload_n hx hb dX7_trade_41 rfl (lv_at hl 0 rfl) ?_
      refine lv_aload_n hx hb dX7_trade_42 rfl (lv_at hl 0 rfl) ?_
      refine zg_7_7 hx hb hts hi7 hown hK hC hk_th w1 dX7_trade_43 ?_
      refine lv_bipush (v := 20) hx hb dX7_trade_46 (by decide) ?_
      refine lv_icmp_ne (tgt := 55) hx hb dX7_trade_48 (by decide) (fun h17 => ?_) (fun h17 => ?_)
      · have hf := zif_f hf h17
        refine lv_iconst (v := 0) hx hb dX7_trade_55 (by decide) ?_
        exact J56 _ _ _ _ th 0 hk_th hC (lv_sub hl [0, 1, 2, 3] rfl) hf
      · have hf := zif_t hf h17
        refine lv_iconst (v := 1) hx hb dX7_trade_51 (by decide) ?_
        refine lv_goto (tgt := 56) hx hb dX7_trade_52 (by decide) ?_
        exact J56 _ _ _ _ th 1 hk_th hC (lv_sub hl [0, 1, 2, 3] rfl) hf
  have J29 : ∀ (rA : zS) (H : Heap) (locs : List Loc) (ls : Array Slot) (s0 : Nat), K s0 = 7 → zC D cy base K L (c, rA, o) s.heap H locs → lv_has ls 4 [(0, .ref th), (1, .int p1), (2, .int p2), (3, .int p3)] → f_X7_trade_29 K z th p1 p2 p3 rA s0 = some (rv, rf) → W p l e (headSpec wsX7_trade ({ frames := 1, cells := 0, slots := 0, locals := 22 })).room s m ([.ref th, .int p1, .int p2, .int p3] : List Value).toArray below meth cd H locs 0 0 (MQ below (va_Qi (fun (rr : Int32) (_ : Unit) => rr = rv) (fun _ => zB D cy base K L (c, rf, o)) (zA base)) ([.ref th, .int p1, .int p2, .int p3] : List Value).toArray s 0 0 (zA base)) (F0 m 29 ls [.ref s0]) := by
    intro rA H locs ls s0 hk_s0 hC hl hf
    unfold f_X7_trade_29 at hf
    refine lv_iconst (v := 1) hx hb dX7_trade_29 (by decide) ?_
    refine lv_goto (tgt := 34) hx hb dX7_trade_30 (by decide) ?_
    exact J34 _ _ _ _ s0 1 hk_s0 hC (lv_sub hl [0, 1, 2, 3] rfl) hf
  unfold f_X7_trade at hf
  refine lv_aload_n hx hb dX7_trade_0 rfl (lv_at hl 0 rfl) ?_
  refine lv_iconst (v := 0) hx hb dX7_trade_1 (by decide) ?_
  obtain ⟨r1, er1, hf⟩ := zlet_inv hf
  refine zp_7_0 hx hb hts hi7 hown hK hC hk_th w0 er1 dX7_trade_2 (fun H locs hC => ?_)
  refine lv_aload_n hx hb dX7_trade_5 rfl (lv_at hl 0 rfl) ?_
  refine lv_iload_n hx hb dX7_trade_6 rfl (lv_at hl 1 rfl) ?_
  refine lv_if_lt (tgt := 29) hx hb dX7_trade_7 (by decide) (fun h22 => ?_) (fun h22 => ?_)
  · have hf := zif_t hf h22
    exact J29 _ _ _ _ th hk_th hC (lv_sub hl [0, 1, 2, 3] rfl) hf
  · have hf := zif_f hf h22
    refine lv_iload_n hx hb dX7_trade_10 rfl (lv_at hl 1 rfl) ?_
    refine lv_sipush (v := 1000) hx hb dX7_trade_11 (by decide) ?_
    refine lv_icmp_gt (tgt := 29) hx hb dX7_trade_14 (by decide) (fun h21 => ?_) (fun h21 => ?_)
    · have hf := zif_t hf h21
      exact J29 _ _ _ _ th hk_th hC (lv_sub hl [0, 1, 2, 3] rfl) hf
    · have hf := zif_f hf h21
      refine lv_iload_n hx hb dX7_trade_17 rfl (lv_at hl 2 rfl) ?_
      refine lv_iconst (v := 1) hx hb dX7_trade_18 (by decide) ?_
      refine lv_icmp_lt (tgt := 29) hx hb dX7_trade_19 (by decide) (fun h20 => ?_) (fun h20 => ?_)
      · have hf := zif_t hf h20
        exact J29 _ _ _ _ th hk_th hC (lv_sub hl [0, 1, 2, 3] rfl) hf
      · have hf := zif_f hf h20
        refine lv_iload_n hx hb dX7_trade_22 rfl (lv_at hl 2 rfl) ?_
        refine lv_sipush (v := 200) hx hb dX7_trade_23 (by decide) ?_
        refine lv_icmp_le (tgt := 33) hx hb dX7_trade_26 (by decide) (fun h19 => ?_) (fun h19 => ?_)
        · have hf := zif_t hf h19
          refine lv_iconst (v := 0) hx hb dX7_trade_33 (by decide) ?_
          exact J34 _ _ _ _ th 0 hk_th hC (lv_sub hl [0, 1, 2, 3] rfl) hf
        · have hf := zif_f hf h19
          exact J29 _ _ _ _ th hk_th hC (lv_sub hl [0, 1, 2, 3] rfl) hf
def f_X7_noTrade (K : Nat → Nat) (z : Nat) (r : zS) (th : Nat) (p1 : Int32) : Option Int32 :=
  (if p1 < 0 then some 1 else (if p1 < (zi r 7 th 0) then some 0 else some 1))
set_option maxRecDepth 100000 in
set_option maxHeartbeats 4000000 in
theorem c_X7_noTrade {l : Launch} {D : va_G} {cy : Nat → ClassId} {base : Nat} {st : Nat → Nat} {K : Nat → Nat} {L : List Nat} {c r : zS} {o : Int64} {z : Nat} (th : Nat) (p1 : Int32) {rv : Int32}  (hk_th : K th = 7) (hf : f_X7_noTrade K z r th p1 = some rv) : Met l yX7_noTrade wsX7_noTrade ({ frames := 0, cells := 0, slots := 0, locals := 0 }) (va_Pc [.ref th, .int p1] (zGW zts0 zns0 D cy base st K L (c, r, o))) (va_Qi (fun (rr : Int32) (_ : Unit) => rr = rv) (fun _ => zB D cy base K L (c, r, o)) (zA base)) 0 0 (zA base) := by
  refine Met.ofW (cc := cX7_noTrade) (maxL := 2) (ret := (some .boolean)) (by decide) rfl ?_
  intro p e s m args below meth cd s₁ B hml hv
  obtain ⟨rfl, hG⟩ := hv
  have hx := B.exec
  have hb := B.bytes
  have hr := B.returns
  have hts := atoms_spec (ws := wsX7_noTrade) B.pre
  have hown : s.vm.findClass RX7 = some m.cls := findClass_of_methodNamed B.named
  have hlocks := B.notSynchronized
  have hC := hG.enter
  have hK := hG.2.2.2.1
  have hi7 : ∀ w ∈ wsX70, w ∈ wsX7_noTrade := by decide +kernel
  have w0 := hts (.fieldLink RX7 134 "MarketSquareModel" "trades" "I") (by decide +kernel)
  have hl := lv_entry ([.ref th, .int p1]) (n := 2) (Nat.le_of_ble_eq_true rfl)
  rw [lg_entry_eq]
  generalize (lg_sl ([.ref th, .int p1]) ++ List.replicate (2 - (lg_sl ([.ref th, .int p1])).length) Slot.unset).toArray = ls at hl ⊢
  have hl : lv_has ls 2 [(0, .ref th), (1, .int p1)] := hl
  unfold f_X7_noTrade at hf
  refine lv_iload_n hx hb dX7_noTrade_0 rfl (lv_at hl 1 rfl) ?_
  refine lv_if_lt (tgt := 12) hx hb dX7_noTrade_1 (by decide) (fun h2 => ?_) (fun h2 => ?_)
  · have hf := zif_t hf h2
    refine lv_iconst (v := 1) hx hb dX7_noTrade_12 (by decide) ?_
    refine lv_goto (tgt := 17) hx hb dX7_noTrade_13 (by decide) ?_
    exact z_zret hx hb hr hlocks hC (Or.inr rfl) hf dX7_noTrade_17
  · have hf := zif_f hf h2
    refine lv_iload_n hx hb dX7_noTrade_4 rfl (lv_at hl 1 rfl) ?_
    refine lv_aload_n hx hb dX7_noTrade_5 rfl (lv_at hl 0 rfl) ?_
    refine zg_7_7 hx hb hts hi7 hown hK hC hk_th w0 dX7_noTrade_6 ?_
    refine lv_icmp_lt (tgt := 16) hx hb dX7_noTrade_9 (by decide) (fun h1 => ?_) (fun h1 => ?_)
    · have hf := zif_t hf h1
      refine lv_iconst (v := 0) hx hb dX7_noTrade_16 (by decide) ?_
      exact z_zret hx hb hr hlocks hC (Or.inl rfl) hf dX7_noTrade_17
    · have hf := zif_f hf h1
      refine lv_iconst (v := 1) hx hb dX7_noTrade_12 (by decide) ?_
      refine lv_goto (tgt := 17) hx hb dX7_noTrade_13 (by decide) ?_
      exact z_zret hx hb hr hlocks hC (Or.inr rfl) hf dX7_noTrade_17
def f_X7_pair_47 (K : Nat → Nat) (z : Nat) (th : Nat) (p1 : Int32) (p2 : Int32) (p3 : Int32) (rA : zS) (s0 : Nat) (s1 : Int32) : Option (Int32 × zS) :=
  zb2 (f_X7_throwsIf K z rA s0 s1 2) fun x8 r9 => (if x8 = 0 then zn K (zr r9 6 th 0) 106 fun a10 => zx ((20 * p1) + p2) 400 <| zlet (zi r9 106 a10 (Int32.toNatClampNeg ((20 * p1) + p2))) fun x11 => zx ((20 * p1) + p2) 400 <| zz p3 <| zlet (zui r9 106 a10 (Int32.toNatClampNeg ((20 * p1) + p2)) p3) fun r13 => zn K (zr r13 6 th 0) 106 fun a14 => zx ((20 * p2) + p1) 400 <| zz p3 <| zlet (zui r13 106 a14 (Int32.toNatClampNeg ((20 * p2) + p1)) p3) fun r16 => (if x11 = p3 then some (0, r16) else some (1, r16)) else some (0, r9))
def f_X7_pair_27 (K : Nat → Nat) (z : Nat) (th : Nat) (p1 : Int32) (p2 : Int32) (p3 : Int32) (rA : zS) (s0 : Nat) (s1 : Int32) : Option (Int32 × zS) :=
  zb2 (f_X7_throwsIf K z rA s0 s1 1) fun x5 r6 => (if x5 = 0 then (if (zi r6 37 th 0) = 0 then f_X7_pair_47 K z th p1 p2 p3 r6 th 0 else f_X7_pair_47 K z th p1 p2 p3 r6 th 1) else some (0, r6))
def f_X7_pair_22 (K : Nat → Nat) (z : Nat) (th : Nat) (p1 : Int32) (p2 : Int32) (p3 : Int32) (rA : zS) (s0 : Nat) : Option (Int32 × zS) :=
  f_X7_pair_27 K z th p1 p2 p3 rA s0 1
def f_X7_pair (K : Nat → Nat) (z : Nat) (r : zS) (th : Nat) (p1 : Int32) (p2 : Int32) (p3 : Int32) : Option (Int32 × zS) :=
  zlet (zui r 0 th 0 0) fun r1 => zb (f_X7_noTrade K z r1 th p1) fun x3 => (if x3 = 0 then zb (f_X7_noTrade K z r1 th p2) fun x22 => (if x22 = 0 then f_X7_pair_27 K z th p1 p2 p3 r1 th 0 else f_X7_pair_22 K z th p1 p2 p3 r1 th) else f_X7_pair_22 K z th p1 p2 p3 r1 th)
set_option maxRecDepth 100000 in
set_option maxHeartbeats 4000000 in
theorem c_X7_pair {l : Launch} {D : va_G} {cy : Nat → ClassId} {base : Nat} {st : Nat → Nat} {K : Nat → Nat} {L : List Nat} {c r : zS} {o : Int64} {z : Nat} (th : Nat) (p1 : Int32) (p2 : Int32) (p3 : Int32) {rv : Int32} {rf : zS}  (hk_th : K th = 7) (hf : f_X7_pair K z r th p1 p2 p3 = some (rv, rf)) : Met l yX7_pair wsX7_pair ({ frames := 1, cells := 0, slots := 0, locals := 22 }) (va_Pc [.ref th, .int p1, .int p2, .int p3] (zGW zts0 zns0 D cy base st K L (c, r, o))) (va_Qi (fun (rr : Int32) (_ : Unit) => rr = rv) (fun _ => zB D cy base K L (c, rf, o)) (zA base)) 0 0 (zA base) := by
  refine Met.ofW (cc := cX7_pair) (maxL := 5) (ret := (some .boolean)) (by decide) rfl ?_
  intro p e s m args below meth cd s₁ B hml hv
  obtain ⟨rfl, hG⟩ := hv
  have hx := B.exec
  have hb := B.bytes
  have hr := B.returns
  have hts := atoms_spec (ws := wsX7_pair) B.pre
  have hown : s.vm.findClass RX7 = some m.cls := findClass_of_methodNamed B.named
  have hlocks := B.notSynchronized
  have hC := hG.enter
  have hK := hG.2.2.2.1
  have hi7 : ∀ w ∈ wsX70, w ∈ wsX7_pair := by decide +kernel
  have w0 := hts (.fieldLink RX7 127 "MarketSquareModel" "thrown" "I") (by decide +kernel)
  have w1 := hts (.fieldLink RX7 214 "MarketSquareModel" "time" "I") (by decide +kernel)
  have w2 := hts (.fieldLink RX7 27 "MarketSquareModel" "paired" "[Z") (by decide +kernel)
  have hl := lv_entry ([.ref th, .int p1, .int p2, .int p3]) (n := 5) (Nat.le_of_ble_eq_true rfl)
  rw [lg_entry_eq]
  generalize (lg_sl ([.ref th, .int p1, .int p2, .int p3]) ++ List.replicate (5 - (lg_sl ([.ref th, .int p1, .int p2, .int p3])).length) Slot.unset).toArray = ls at hl ⊢
  have hl : lv_has ls 5 [(0, .ref th), (1, .int p1), (2, .int p2), (3, .int p3)] := hl
  have J47 : ∀ (rA : zS) (H : Heap) (locs : List Loc) (ls : Array Slot) (s0 : Nat) (s1 : Int32), K s0 = 7 → zC D cy base K L (c, rA, o) s.heap H locs → lv_has ls 5 [(0, .ref th), (1, .int p1), (2, .int p2), (3, .int p3)] → f_X7_pair_47 K z th p1 p2 p3 rA s0 s1 = some (rv, rf) → W p l e (headSpec wsX7_pair ({ frames := 1, cells := 0, slots := 0, locals := 22 })).room s m ([.ref th, .int p1, .int p2, .int p3] : List Value).toArray below meth cd H locs 0 0 (MQ below (va_Qi (fun (rr : Int32) (_ : Unit) => rr = rv) (fun _ => zB D cy base K L (c, rf, o)) (zA base)) ([.ref th, .int p1, .int p2, .int p3] : List Value).toArray s 0 0 (zA base)) (F0 m 47 ls [.int s1, .ref s0]) := by
    intro rA H locs ls s0 s1 hk_s0 hC hl hf
    unfold f_X7_pair_47 at hf
    refine lv_iconst (v := 2) hx hb dX7_pair_47 (by decide) ?_
    obtain ⟨x8, r9, hc7, hf⟩ := zb2_inv hf
    refine z_ci (z_rV (As := [.int s1, .int 2]) (rest := []) ⟨hx, hb, hml, hown, hts⟩ (c_X7_throwsIf (l := l) (D := D) (cy := cy) (base := base) (st := st) (K := K) (L := L) (c := c) (r := rA) (o := o) (z := z) s0 s1 2 hk_s0 hc7) (cwV 2 hts gX7_pair_X7_throwsIf rfl rfl rfl (by decide +kernel) ⟨Nat.le_of_ble_eq_true rfl, Nat.le_of_ble_eq_true rfl⟩) hG hC (zC.recv (ci := 7) (fs := _) hK hC (by rw [hk_s0]; decide) (by rw [hk_s0]; exact zc_7 cy _ _) rfl) rfl hl.1 rfl (lv_room (Nat.le_of_ble_eq_true rfl)) dX7_pair_48 ⟨Nat.le_of_ble_eq_true rfl, Nat.le_of_ble_eq_true rfl⟩) hC (fun H locs hC => ?_)
    refine lv_if_eq (tgt := 56) hx hb dX7_pair_51 (by decide) (fun h18 => ?_) (fun h18 => ?_)
    · have hf := zif_t hf h18
      refine lv_aload_n hx hb dX7_pair_56 rfl (lv_at hl 0 rfl) ?_
      refine zg_7_6 hx hb hts hi7 hown hK hC hk_th w2 dX7_pair_57 ?_
      obtain ⟨a10, ea10, hk_a10, hf⟩ := zn_inv hf
      refine z_ref ea10 ?_
      refine lv_bipush (v := 20) hx hb dX7_pair_60 (by decide) ?_
      refine lv_iload_n hx hb dX7_pair_62 rfl (lv_at hl 1 rfl) ?_
      refine lv_imul hx hb dX7_pair_63 ?_
      refine lv_iload_n hx hb dX7_pair_64 rfl (lv_at hl 2 rfl) ?_
      refine lv_iadd hx hb dX7_pair_65 ?_
      obtain ⟨hix, hf⟩ := zx_inv hf
      refine xg_106 hx hb hK hC hk_a10 hix dX7_pair_66 ?_
      obtain ⟨x11, ex11, hf⟩ := zlet_inv hf
      refine z_name ex11 ?_
      refine lv_istore (lv' := [(4, .int x11), (0, .ref th), (1, .int p1), (2, .int p2), (3, .int p3)]) hx hb dX7_pair_67 hl (by decide) rfl (fun ls hl => ?_)
      refine lv_aload_n hx hb dX7_pair_69 rfl (lv_at hl 1 rfl) ?_
      refine zg_7_6 hx hb hts hi7 hown hK hC hk_th w2 dX7_pair_70 ?_
      refine z_ref ea10 ?_
      refine lv_bipush (v := 20) hx hb dX7_pair_73 (by decide) ?_
      refine lv_iload_n hx hb dX7_pair_75 rfl (lv_at hl 2 rfl) ?_
      refine lv_imul hx hb dX7_pair_76 ?_
      refine lv_iload_n hx hb dX7_pair_77 rfl (lv_at hl 3 rfl) ?_
      refine lv_iadd hx hb dX7_pair_78 ?_
      refine lv_iload_n hx hb dX7_pair_79 rfl (lv_at hl 4 rfl) ?_
      obtain ⟨hix, hf⟩ := zx_inv hf
      obtain ⟨hz12, hf⟩ := zz_inv hf
      obtain ⟨r13, er13, hf⟩ := zlet_inv hf
      refine xp_106 hx hb hK hC hk_a10 hix hz12 er13 dX7_pair_80 (fun H locs hC => ?_)
      refine lv_aload_n hx hb dX7_pair_81 rfl (lv_at hl 1 rfl) ?_
      refine zg_7_6 hx hb hts hi7 hown hK hC hk_th w2 dX7_pair_82 ?_
      obtain ⟨a14, ea14, hk_a14, hf⟩ := zn_inv hf
      refine z_ref ea14 ?_
      refine lv_bipush (v := 20) hx hb dX7_pair_85 (by decide) ?_
      refine lv_iload_n hx hb dX7_pair_87 rfl (lv_at hl 3 rfl) ?_
      refine lv_imul hx hb dX7_pair_88 ?_
      refine lv_iload_n hx hb dX7_pair_89 rfl (lv_at hl 2 rfl) ?_
      refine lv_iadd hx hb dX7_pair_90 ?_
      refine lv_iload_n hx hb dX7_pair_91 rfl (lv_at hl 4 rfl) ?_
      obtain ⟨hix, hf⟩ := zx_inv hf
      obtain ⟨hz15, hf⟩ := zz_inv hf
      obtain ⟨r16, er16, hf⟩ := zlet_inv hf
      refine xp_106 hx hb hK hC hk_a14 hix hz15 er16 dX7_pair_92 (fun H locs hC => ?_)
      refine lv_iload hx hb dX7_pair_93 (lv_at hl 0 rfl) ?_
      refine lv_iload_n hx hb dX7_pair_95 rfl (lv_at hl 4 rfl) ?_
      refine lv_icmp_eq (tgt := 103) hx hb dX7_pair_96 (by decide) (fun h17 => ?_) (fun h17 => ?_)
      · have hf := zif_t hf h17
        refine lv_iconst (v := 0) hx hb dX7_pair_103 (by decide) ?_
        exact z_zretM hx hb hr hlocks hC (Or.inl rfl) hf dX7_pair_104
      · have hf := zif_f hf h17
        refine lv_iconst (v := 1) hx hb dX7_pair_99 (by decide) ?_
        refine lv_goto (tgt := 104) hx hb dX7_pair_100 (by decide) ?_
        exact z_zretM hx hb hr hlocks hC (Or.inr rfl) hf dX7_pair_104
    · have hf := zif_f hf h18
      refine lv_iconst (v := 0) hx hb dX7_pair_54 (by decide) ?_
      exact z_zretM hx hb hr hlocks hC (Or.inl rfl) hf dX7_pair_55
  have J27 : ∀ (rA : zS) (H : Heap) (locs : List Loc) (ls : Array Slot) (s0 : Nat) (s1 : Int32), K s0 = 7 → zC D cy base K L (c, rA, o) s.heap H locs → lv_has ls 5 [(0, .ref th), (1, .int p1), (2, .int p2), (3, .int p3)] → f_X7_pair_27 K z th p1 p2 p3 rA s0 s1 = some (rv, rf) → W p l e (headSpec wsX7_pair ({ frames := 1, cells := 0, slots := 0, locals := 22 })).room s m ([.ref th, .int p1, .int p2, .int p3] : List Value).toArray below meth cd H locs 0 0 (MQ below (va_Qi (fun (rr : Int32) (_ : Unit) => rr = rv) (fun _ => zB D cy base K L (c, rf, o)) (zA base)) ([.ref th, .int p1, .int p2, .int p3] : List Value).toArray s 0 0 (zA base)) (F0 m 27 ls [.int s1, .ref s0]) := by
    intro rA H locs ls s0 s1 hk_s0 hC hl hf
    unfold f_X7_pair_27 at hf
    refine lv_iconst (v := 1) hx hb dX7_pair_27 (by decide) ?_
    obtain ⟨x5, r6, hc4, hf⟩ := zb2_inv hf
    refine z_ci (z_rV (As := [.int s1, .int 1]) (rest := []) ⟨hx, hb, hml, hown, hts⟩ (c_X7_throwsIf (l := l) (D := D) (cy := cy) (base := base) (st := st) (K := K) (L := L) (c := c) (r := rA) (o := o) (z := z) s0 s1 1 hk_s0 hc4) (cwV 2 hts gX7_pair_X7_throwsIf rfl rfl rfl (by decide +kernel) ⟨Nat.le_of_ble_eq_true rfl, Nat.le_of_ble_eq_true rfl⟩) hG hC (zC.recv (ci := 7) (fs := _) hK hC (by rw [hk_s0]; decide) (by rw [hk_s0]; exact zc_7 cy _ _) rfl) rfl hl.1 rfl (lv_room (Nat.le_of_ble_eq_true rfl)) dX7_pair_28 ⟨Nat.le_of_ble_eq_true rfl, Nat.le_of_ble_eq_true rfl⟩) hC (fun H locs hC => ?_)
    refine lv_if_ne (tgt := 54) hx hb dX7_pair_31 (by decide) (fun h20 => ?_) (fun h20 => ?_)
    · have hf := zif_f hf h20
      refine lv_iconst (v := 0) hx hb dX7_pair_54 (by decide) ?_
      exact z_zretM hx hb hr hlocks hC (Or.inl rfl) hf dX7_pair_55
    · have hf := zif_t hf h20
      refine lv_aload_n hx hb dX7_pair_34 rfl (lv_at hl 0 rfl) ?_
      refine lv_aload_n hx hb dX7_pair_35 rfl (lv_at hl 0 rfl) ?_
      refine zg_7_37 hx hb hts hi7 hown hK hC hk_th w1 dX7_pair_36 ?_
      refine lv_if_eq (tgt := 46) hx hb dX7_pair_39 (by decide) (fun h19 => ?_) (fun h19 => ?_)
      · have hf := zif_t hf h19
        refine lv_iconst (v := 0) hx hb dX7_pair_46 (by decide) ?_
        exact J47 _ _ _ _ th 0 hk_th hC (lv_sub hl [0, 1, 2, 3] rfl) hf
      · have hf := zif_f hf h19
        refine lv_iconst (v := 1) hx hb dX7_pair_42 (by decide) ?_
        refine lv_goto (tgt := 47) hx hb dX7_pair_43 (by decide) ?_
        exact J47 _ _ _ _ th 1 hk_th hC (lv_sub hl [0, 1, 2, 3] rfl) hf
  have J22 : ∀ (rA : zS) (H : Heap) (locs : List Loc) (ls : Array Slot) (s0 : Nat), K s0 = 7 → zC D cy base K L (c, rA, o) s.heap H locs → lv_has ls 5 [(0, .ref th), (1, .int p1), (2, .int p2), (3, .int p3)] → f_X7_pair_22 K z th p1 p2 p3 rA s0 = some (rv, rf) → W p l e (headSpec wsX7_pair ({ frames := 1, cells := 0, slots := 0, locals := 22 })).room s m ([.ref th, .int p1, .int p2, .int p3] : List Value).toArray below meth cd H locs 0 0 (MQ below (va_Qi (fun (rr : Int32) (_ : Unit) => rr = rv) (fun _ => zB D cy base K L (c, rf, o)) (zA base)) ([.ref th, .int p1, .int p2, .int p3] : List Value).toArray s 0 0 (zA base)) (F0 m 22 ls [.ref s0]) := by
    intro rA H locs ls s0 hk_s0 hC hl hf
    unfold f_X7_pair_22 at hf
    refine lv_iconst (v := 1) hx hb dX7_pair_22 (by decide) ?_
    refine lv_goto (tgt := 27) hx hb dX7_pair_23 (by decide) ?_
    exact J27 _ _ _ _ s0 1 hk_s0 hC (lv_sub hl [0, 1, 2, 3] rfl) hf
  unfold f_X7_pair at hf
  refine lv_aload_n hx hb dX7_pair_0 rfl (lv_at hl 0 rfl) ?_
  refine lv_iconst (v := 0) hx hb dX7_pair_1 (by decide) ?_
  obtain ⟨r1, er1, hf⟩ := zlet_inv hf
  refine zp_7_0 hx hb hts hi7 hown hK hC hk_th w0 er1 dX7_pair_2 (fun H locs hC => ?_)
  refine lv_aload_n hx hb dX7_pair_5 rfl (lv_at hl 0 rfl) ?_
  refine lv_aload_n hx hb dX7_pair_6 rfl (lv_at hl 0 rfl) ?_
  refine lv_iload_n hx hb dX7_pair_7 rfl (lv_at hl 1 rfl) ?_
  obtain ⟨x3, hc2, hf⟩ := zb_inv hf
  refine z_ci (z_rV (As := [.int p1]) (rest := [.ref th]) ⟨hx, hb, hml, hown, hts⟩ (c_X7_noTrade (l := l) (D := D) (cy := cy) (base := base) (st := st) (K := K) (L := L) (c := c) (r := r1) (o := o) (z := z) th p1 hk_th hc2) (cwV 1 hts gX7_pair_X7_noTrade rfl rfl rfl (by decide +kernel) ⟨Nat.le_of_ble_eq_true rfl, Nat.le_of_ble_eq_true rfl⟩) hG hC (zC.recv (ci := 7) (fs := _) hK hC (by rw [hk_th]; decide) (by rw [hk_th]; exact zc_7 cy _ _) rfl) rfl hl.1 rfl (lv_room (Nat.le_of_ble_eq_true rfl)) dX7_pair_8 ⟨Nat.le_of_ble_eq_true rfl, Nat.le_of_ble_eq_true rfl⟩) hC (fun H locs hC => ?_)
  refine lv_if_ne (tgt := 22) hx hb dX7_pair_11 (by decide) (fun h24 => ?_) (fun h24 => ?_)
  · have hf := zif_f hf h24
    exact J22 _ _ _ _ th hk_th hC (lv_sub hl [0, 1, 2, 3] rfl) hf
  · have hf := zif_t hf h24
    refine lv_aload_n hx hb dX7_pair_14 rfl (lv_at hl 0 rfl) ?_
    refine lv_iload_n hx hb dX7_pair_15 rfl (lv_at hl 2 rfl) ?_
    obtain ⟨x22, hc21, hf⟩ := zb_inv hf
    refine z_ci (z_rV (As := [.int p2]) (rest := [.ref th]) ⟨hx, hb, hml, hown, hts⟩ (c_X7_noTrade (l := l) (D := D) (cy := cy) (base := base) (st := st) (K := K) (L := L) (c := c) (r := r1) (o := o) (z := z) th p2 hk_th hc21) (cwV 1 hts gX7_pair_X7_noTrade rfl rfl rfl (by decide +kernel) ⟨Nat.le_of_ble_eq_true rfl, Nat.le_of_ble_eq_true rfl⟩) hG hC (zC.recv (ci := 7) (fs := _) hK hC (by rw [hk_th]; decide) (by rw [hk_th]; exact zc_7 cy _ _) rfl) rfl hl.1 rfl (lv_room (Nat.le_of_ble_eq_true rfl)) dX7_pair_16 ⟨Nat.le_of_ble_eq_true rfl, Nat.le_of_ble_eq_true rfl⟩) hC (fun H locs hC => ?_)
    refine lv_if_eq (tgt := 26) hx hb dX7_pair_19 (by decide) (fun h23 => ?_) (fun h23 => ?_)
    · have hf := zif_t hf h23
      refine lv_iconst (v := 0) hx hb dX7_pair_26 (by decide) ?_
      exact J27 _ _ _ _ th 0 hk_th hC (lv_sub hl [0, 1, 2, 3] rfl) hf
    · have hf := zif_f hf h23
      exact J22 _ _ _ _ th hk_th hC (lv_sub hl [0, 1, 2, 3] rfl) hf
def f_X7_trader_67 (K : Nat → Nat) (z : Nat) (th : Nat) (p1 : Int32) (p2 : Int32) (p3 : Int32) (rA : zS) (s0 : Nat) (s1 : Int32) : Option (Int32 × zS) :=
  zb2 (f_X7_throwsIf K z rA s0 s1 3) fun x11 r12 => (if x11 = 0 then zlet (zi r12 35 th 0) fun x13 => zn K (zr r12 8 th 0) 108 fun a14 => zx x13 200 <| zlet (zui r12 108 a14 (Int32.toNatClampNeg x13) p1) fun r15 => zn K (zr r15 9 th 0) 109 fun a16 => zx x13 200 <| zlet (zui r15 109 a16 (Int32.toNatClampNeg x13) p2) fun r17 => zn K (zr r17 10 th 0) 110 fun a18 => zx x13 200 <| zlet (zui r17 110 a18 (Int32.toNatClampNeg x13) p3) fun r19 => zn K (zr r19 11 th 0) 111 fun a20 => zx x13 200 <| zlet (zui r19 111 a20 (Int32.toNatClampNeg x13) (zi r19 36 th 0)) fun r21 => zn K (zr r21 15 th 0) 115 fun a22 => zx x13 200 <| zlet (zui r21 115 a22 (Int32.toNatClampNeg x13) 4095) fun r23 => zn K (zr r23 33 th 0) 133 fun a24 => zx x13 200 <| zlet (zui r23 133 a24 (Int32.toNatClampNeg x13) (-1)) fun r25 => zlet (zui r25 35 th 0 ((zi r25 35 th 0) + 1)) fun r26 => zlet (zui r26 36 th 0 ((zi r26 36 th 0) + 1)) fun r27 => some (x13, r27) else some (0, r12))
def f_X7_trader_44 (K : Nat → Nat) (z : Nat) (th : Nat) (p1 : Int32) (p2 : Int32) (p3 : Int32) (rA : zS) (s0 : Nat) (s1 : Int32) : Option (Int32 × zS) :=
  zb2 (f_X7_throwsIf K z rA s0 s1 2) fun x8 r9 => (if x8 = 0 then (if (zi r9 35 th 0) = 200 then f_X7_trader_67 K z th p1 p2 p3 r9 th 1 else f_X7_trader_67 K z th p1 p2 p3 r9 th 0) else some (0, r9))
def f_X7_trader_39 (K : Nat → Nat) (z : Nat) (th : Nat) (p1 : Int32) (p2 : Int32) (p3 : Int32) (rA : zS) (s0 : Nat) : Option (Int32 × zS) :=
  f_X7_trader_44 K z th p1 p2 p3 rA s0 1
def f_X7_trader (K : Nat → Nat) (z : Nat) (r : zS) (th : Nat) (p1 : Int32) (p2 : Int32) (p3 : Int32) : Option (Int32 × zS) :=
  zlet (zui r 0 th 0 0) fun r1 => zb (f_X7_noTrade K z r1 th p2) fun x3 => zb2 (f_X7_throwsIf K z r1 th x3 1) fun x5 r6 => (if x5 = 0 then (if p1 < 0 then f_X7_trader_39 K z th p1 p2 p3 r6 th else (if 4 < p1 then f_X7_trader_39 K z th p1 p2 p3 r6 th else (if p3 < 1 then f_X7_trader_39 K z th p1 p2 p3 r6 th else (if p3 ≤ 20 then f_X7_trader_44 K z th p1 p2 p3 r6 th 0 else f_X7_trader_39 K z th p1 p2 p3 r6 th)))) else some (0, r6))
set_option maxRecDepth 100000 in
set_option maxHeartbeats 4000000 in
theorem c_X7_trader {l : Launch} {D : va_G} {cy : Nat → ClassId} {base : Nat} {st : Nat → Nat} {K : Nat → Nat} {L : List Nat} {c r : zS} {o : Int64} {z : Nat} (th : Nat) (p1 : Int32) (p2 : Int32) (p3 : Int32) {rv : Int32} {rf : zS}  (hk_th : K th = 7) (hf : f_X7_trader K z r th p1 p2 p3 = some (rv, rf)) : Met l yX7_trader wsX7_trader ({ frames := 1, cells := 0, slots := 0, locals := 22 }) (va_Pc [.ref th, .int p1, .int p2, .int p3] (zGW zts0 zns0 D cy base st K L (c, r, o))) (va_Qi (fun (rr : Int32) (_ : Unit) => rr = rv) (fun _ => zB D cy base K L (c, rf, o)) (zA base)) 0 0 (zA base) := by
  refine Met.ofW (cc := cX7_trader) (maxL := 5) (ret := (some .int)) (by decide) rfl ?_
  intro p e s m args below meth cd s₁ B hml hv
  obtain ⟨rfl, hG⟩ := hv
  have hx := B.exec
  have hb := B.bytes
  have hr := B.returns
  have hts := atoms_spec (ws := wsX7_trader) B.pre
  have hown : s.vm.findClass RX7 = some m.cls := findClass_of_methodNamed B.named
  have hlocks := B.notSynchronized
  have hC := hG.enter
  have hK := hG.2.2.2.1
  have hi7 : ∀ w ∈ wsX70, w ∈ wsX7_trader := by decide +kernel
  have w0 := hts (.fieldLink RX7 127 "MarketSquareModel" "thrown" "I") (by decide +kernel)
  have w1 := hts (.fieldLink RX7 131 "MarketSquareModel" "traders" "I") (by decide +kernel)
  have w2 := hts (.fieldLink RX7 30 "MarketSquareModel" "kind" "[I") (by decide +kernel)
  have w3 := hts (.fieldLink RX7 33 "MarketSquareModel" "trade" "[I") (by decide +kernel)
  have w4 := hts (.fieldLink RX7 36 "MarketSquareModel" "front" "[I") (by decide +kernel)
  have w5 := hts (.fieldLink RX7 39 "MarketSquareModel" "rank" "[I") (by decide +kernel)
  have w6 := hts (.fieldLink RX7 234 "MarketSquareModel" "ranks" "I") (by decide +kernel)
  have w7 := hts (.fieldLink RX7 51 "MarketSquareModel" "monthBits" "[I") (by decide +kernel)
  have w8 := hts (.fieldLink RX7 105 "MarketSquareModel" "last" "[I") (by decide +kernel)
  have hl := lv_entry ([.ref th, .int p1, .int p2, .int p3]) (n := 5) (Nat.le_of_ble_eq_true rfl)
  rw [lg_entry_eq]
  generalize (lg_sl ([.ref th, .int p1, .int p2, .int p3]) ++ List.replicate (5 - (lg_sl ([.ref th, .int p1, .int p2, .int p3])).length) Slot.unset).toArray = ls at hl ⊢
  have hl : lv_has ls 5 [(0, .ref th), (1, .int p1), (2, .int p2), (3, .int p3)] := hl
  have J67 : ∀ (rA : zS) (H : Heap) (locs : List Loc) (ls : Array Slot) (s0 : Nat) (s1 : Int32), K s0 = 7 → zC D cy base K L (c, rA, o) s.heap H locs → lv_has ls 5 [(0, .ref th), (1, .int p1), (2, .int p2), (3, .int p3)] → f_X7_trader_67 K z th p1 p2 p3 rA s0 s1 = some (rv, rf) → W p l e (headSpec wsX7_trader ({ frames := 1, cells := 0, slots := 0, locals := 22 })).room s m ([.ref th, .int p1, .int p2, .int p3] : List Value).toArray below meth cd H locs 0 0 (MQ below (va_Qi (fun (rr : Int32) (_ : Unit) => rr = rv) (fun _ => zB D cy base K L (c, rf, o)) (zA base)) ([.ref th, .int p1, .int p2, .int p3] : List Value).toArray s 0 0 (zA base)) (F0 m 67 ls [.int s1, .ref s0]) := by
    intro rA H locs ls s0 s1 hk_s0 hC hl hf
    unfold f_X7_trader_67 at hf
    refine lv_iconst (v := 3) hx hb dX7_trader_67 (by decide) ?_
    obtain ⟨x11, r12, hc10, hf⟩ := zb2_inv hf
    refine z_ci (z_rV (As := [.int s1, .int 3]) (rest := []) ⟨hx, hb, hml, hown, hts⟩ (c_X7_throwsIf (l := l) (D := D) (cy := cy) (base := base) (st := st) (K := K) (L := L) (c := c) (r := rA) (o := o) (z := z) s0 s1 3 hk_s0 hc10) (cwV 2 hts gX7_trader_X7_throwsIf rfl rfl rfl (by decide +kernel) ⟨Nat.le_of_ble_eq_true rfl, Nat.le_of_ble_eq_true rfl⟩) hG hC (zC.recv (ci := 7) (fs := _) hK hC (by rw [hk_s0]; decide) (by rw [hk_s0]; exact zc_7 cy _ _) rfl) rfl hl.1 rfl (lv_room (Nat.le_of_ble_eq_true rfl)) dX7_trader_68 ⟨Nat.le_of_ble_eq_true rfl, Nat.le_of_ble_eq_true rfl⟩) hC (fun H locs hC => ?_)
    refine lv_if_eq (tgt := 76) hx hb dX7_trader_71 (by decide) (fun h28 => ?_) (fun h28 => ?_)
    · have hf := zif_t hf h28
      refine lv_aload_n hx hb dX7_trader_76 rfl (lv_at hl 0 rfl) ?_
      refine zg_7_35 hx hb hts hi7 hown hK hC hk_th w1 dX7_trader_77 ?_
      obtain ⟨x13, ex13, hf⟩ := zlet_inv hf
      refine z_name ex13 ?_
      refine lv_istore (lv' := [(4, .int x13), (0, .ref th), (1, .int p1), (2, .int p2), (3, .int p3)]) hx hb dX7_trader_80 hl (by decide) rfl (fun ls hl => ?_)
      refine lv_aload_n hx hb dX7_trader_82 rfl (lv_at hl 1 rfl) ?_
      refine zg_7_8 hx hb hts hi7 hown hK hC hk_th w2 dX7_trader_83 ?_
      obtain ⟨a14, ea14, hk_a14, hf⟩ := zn_inv hf
      refine z_ref ea14 ?_
      refine lv_iload hx hb dX7_trader_86 (lv_at hl 0 rfl) ?_
      refine lv_iload_n hx hb dX7_trader_88 rfl (lv_at hl 2 rfl) ?_
      obtain ⟨hix, hf⟩ := zx_inv hf
      obtain ⟨r15, er15, hf⟩ := zlet_inv hf
      refine xp_108 hx hb hK hC hk_a14 hix er15 dX7_trader_89 (fun H locs hC => ?_)
      refine lv_aload_n hx hb dX7_trader_90 rfl (lv_at hl 1 rfl) ?_
      refine zg_7_9 hx hb hts hi7 hown hK hC hk_th w3 dX7_trader_91 ?_
      obtain ⟨a16, ea16, hk_a16, hf⟩ := zn_inv hf
      refine z_ref ea16 ?_
      refine lv_iload hx hb dX7_trader_94 (lv_at hl 0 rfl) ?_
      refine lv_iload_n hx hb dX7_trader_96 rfl (lv_at hl 3 rfl) ?_
      obtain ⟨hix, hf⟩ := zx_inv hf
      obtain ⟨r17, er17, hf⟩ := zlet_inv hf
      refine xp_109 hx hb hK hC hk_a16 hix er17 dX7_trader_97 (fun H locs hC => ?_)
      refine lv_aload_n hx hb dX7_trader_98 rfl (lv_at hl 1 rfl) ?_
      refine zg_7_10 hx hb hts hi7 hown hK hC hk_th w4 dX7_trader_99 ?_
      obtain ⟨a18, ea18, hk_a18, hf⟩ := zn_inv hf
      refine z_ref ea18 ?_
      refine lv_iload hx hb dX7_trader_102 (lv_at hl 0 rfl) ?_
      refine lv_iload_n hx hb dX7_trader_104 rfl (lv_at hl 4 rfl) ?_
      obtain ⟨hix, hf⟩ := zx_inv hf
      obtain ⟨r19, er19, hf⟩ := zlet_inv hf
      refine xp_110 hx hb hK hC hk_a18 hix er19 dX7_trader_105 (fun H locs hC => ?_)
      refine lv_aload_n hx hb dX7_trader_106 rfl (lv_at hl 1 rfl) ?_
      refine zg_7_11 hx hb hts hi7 hown hK hC hk_th w5 dX7_trader_107 ?_
      obtain ⟨a20, ea20, hk_a20, hf⟩ := zn_inv hf
      refine z_ref ea20 ?_
      refine lv_iload hx hb dX7_trader_110 (lv_at hl 0 rfl) ?_
      refine lv_aload_n hx hb dX7_trader_112 rfl (lv_at hl 1 rfl) ?_
      refine zg_7_36 hx hb hts hi7 hown hK hC hk_th w6 dX7_trader_113 ?_
      obtain ⟨hix, hf⟩ := zx_inv hf
      obtain ⟨r21, er21, hf⟩ := zlet_inv hf
      refine xp_111 hx hb hK hC hk_a20 hix er21 dX7_trader_116 (fun H locs hC => ?_)
      refine lv_aload_n hx hb dX7_trader_117 rfl (lv_at hl 1 rfl) ?_
      refine zg_7_15 hx hb hts hi7 hown hK hC hk_th w7 dX7_trader_118 ?_
      obtain ⟨a22, ea22, hk_a22, hf⟩ := zn_inv hf
      refine z_ref ea22 ?_
      refine lv_iload hx hb dX7_trader_121 (lv_at hl 0 rfl) ?_
      refine lv_sipush (v := 4095) hx hb dX7_trader_123 (by decide) ?_
      obtain ⟨hix, hf⟩ := zx_inv hf
      obtain ⟨r23, er23, hf⟩ := zlet_inv hf
      refine xp_115 hx hb hK hC hk_a22 hix er23 dX7_trader_126 (fun H locs hC => ?_)
      refine lv_aload_n hx hb dX7_trader_127 rfl (lv_at hl 1 rfl) ?_
      refine zg_7_33 hx hb hts hi7 hown hK hC hk_th w8 dX7_trader_128 ?_
      obtain ⟨a24, ea24, hk_a24, hf⟩ := zn_inv hf
      refine z_ref ea24 ?_
      refine lv_iload hx hb dX7_trader_131 (lv_at hl 0 rfl) ?_
      refine lv_iconst (v := (-1)) hx hb dX7_trader_133 (by decide) ?_
      obtain ⟨hix, hf⟩ := zx_inv hf
      obtain ⟨r25, er25, hf⟩ := zlet_inv hf
      refine xp_133 hx hb hK hC hk_a24 hix er25 dX7_trader_134 (fun H locs hC => ?_)
      refine lv_aload_n hx hb dX7_trader_135 rfl (lv_at hl 1 rfl) ?_
      refine lv_dup hx hb dX7_trader_136 rfl ?_
      refine zg_7_35 hx hb hts hi7 hown hK hC hk_th w1 dX7_trader_137 ?_
      refine lv_iconst (v := 1) hx hb dX7_trader_140 (by decide) ?_
      refine lv_iadd hx hb dX7_trader_141 ?_
      obtain ⟨r26, er26, hf⟩ := zlet_inv hf
      refine zp_7_35 hx hb hts hi7 hown hK hC hk_th w1 er26 dX7_trader_142 (fun H locs hC => ?_)
      refine lv_aload_n hx hb dX7_trader_145 rfl (lv_at hl 1 rfl) ?_
      refine lv_dup hx hb dX7_trader_146 rfl ?_
      refine zg_7_36 hx hb hts hi7 hown hK hC hk_th w6 dX7_trader_147 ?_
      refine lv_iconst (v := 1) hx hb dX7_trader_150 (by decide) ?_
      refine lv_iadd hx hb dX7_trader_151 ?_
      obtain ⟨r27, er27, hf⟩ := zlet_inv hf
      refine zp_7_36 hx hb hts hi7 hown hK hC hk_th w6 er27 dX7_trader_152 (fun H locs hC => ?_)
      refine lv_iload hx hb dX7_trader_155 (lv_at hl 0 rfl) ?_
      exact z_iretM hx hb hr hlocks hC hf dX7_trader_157
    · have hf := zif_f hf h28
      refine lv_iconst (v := 0) hx hb dX7_trader_74 (by decide) ?_
      exact z_iretM hx hb hr hlocks hC hf dX7_trader_75
  have J44 : ∀ (rA : zS) (H : Heap) (locs : List Loc) (ls : Array Slot) (s0 : Nat) (s1 : Int32), K s0 = 7 → zC D cy base K L (c, rA, o) s.heap H locs → lv_has ls 5 [(0, .ref th), (1, .int p1), (2, .int p2), (3, .int p3)] → f_X7_trader_44 K z th p1 p2 p3 rA s0 s1 = some (rv, rf) → W p l e (headSpec wsX7_trader ({ frames := 1, cells := 0, slots := 0, locals := 22 })).room s m ([.ref th, .int p1, .int p2, .int p3] : List Value).toArray below meth cd H locs 0 0 (MQ below (va_Qi (fun (rr : Int32) (_ : Unit) => rr = rv) (fun _ => zB D cy base K L (c, rf, o)) (zA base)) ([.ref th, .int p1, .int p2, .int p3] : List Value).toArray s 0 0 (zA base)) (F0 m 44 ls [.int s1, .ref s0]) := by
    intro rA H locs ls s0 s1 hk_s0 hC hl hf
    unfold f_X7_trader_44 at hf
    refine lv_iconst (v := 2) hx hb dX7_trader_44 (by decide) ?_
    obtain ⟨x8, r9, hc7, hf⟩ := zb2_inv hf
    refine z_ci (z_rV (As := [.int s1, .int 2]) (rest := []) ⟨hx, hb, hml, hown, hts⟩ (c_X7_throwsIf (l := l) (D := D) (cy := cy) (base := base) (st := st) (K := K) (L := L) (c := c) (r := rA) (o := o) (z := z) s0 s1 2 hk_s0 hc7) (cwV 2 hts gX7_trader_X7_throwsIf rfl rfl rfl (by decide +kernel) ⟨Nat.le_of_ble_eq_true rfl, Nat.le_of_ble_eq_true rfl⟩) hG hC (zC.recv (ci := 7) (fs := _) hK hC (by rw [hk_s0]; decide) (by rw [hk_s0]; exact zc_7 cy _ _) rfl) rfl hl.1 rfl (lv_room (Nat.le_of_ble_eq_true rfl)) dX7_trader_45 ⟨Nat.le_of_ble_eq_true rfl, Nat.le_of_ble_eq_true rfl⟩) hC (fun H locs hC => ?_)
    refine lv_if_ne (tgt := 74) hx hb dX7_trader_48 (by decide) (fun h30 => ?_) (fun h30 => ?_)
    · have hf := zif_f hf h30
      refine lv_iconst (v := 0) hx hb dX7_trader_74 (by decide) ?_
      exact z_iretM hx hb hr hlocks hC hf dX7_trader_75
    · have hf := zif_t hf h30
      refine lv_aload_n hx hb dX7_trader_51 rfl (lv_at hl 0 rfl) ?_
      refine lv_aload_n hx hb dX7_trader_52 rfl (lv_at hl 0 rfl) ?_
      refine zg_7_35 hx hb hts hi7 hown hK hC hk_th w1 dX7_trader_53 ?_
      refine lv_sipush (v := 200) hx hb dX7_trader_56 (by decide) ?_
      refine lv_icmp_ne (tgt := 66) hx hb dX7_trader_59 (by decide) (fun h29 => ?_) (fun h29 => ?_)
      · have hf := zif_f hf h29
        refine lv_iconst (v := 0) hx hb dX7_trader_66 (by decide) ?_
        exact J67 _ _ _ _ th 0 hk_th hC (lv_sub hl [0, 1, 2, 3] rfl) hf
      · have hf := zif_t hf h29
        refine lv_iconst (v := 1) hx hb dX7_trader_62 (by decide) ?_
        refine lv_goto (tgt := 67) hx hb dX7_trader_63 (by decide) ?_
        exact J67 _ _ _ _ th 1 hk_th hC (lv_sub hl [0, 1, 2, 3] rfl) hf
  have J39 : ∀ (rA : zS) (H : Heap) (locs : List Loc) (ls : Array Slot) (s0 : Nat), K s0 = 7 → zC D cy base K L (c, rA, o) s.heap H locs → lv_has ls 5 [(0, .ref th), (1, .int p1), (2, .int p2), (3, .int p3)] → f_X7_trader_39 K z th p1 p2 p3 rA s0 = some (rv, rf) → W p l e (headSpec wsX7_trader ({ frames := 1, cells := 0, slots := 0, locals := 22 })).room s m ([.ref th, .int p1, .int p2, .int p3] : List Value).toArray below meth cd H locs 0 0 (MQ below (va_Qi (fun (rr : Int32) (_ : Unit) => rr = rv) (fun _ => zB D cy base K L (c, rf, o)) (zA base)) ([.ref th, .int p1, .int p2, .int p3] : List Value).toArray s 0 0 (zA base)) (F0 m 39 ls [.ref s0]) := by
    intro rA H locs ls s0 hk_s0 hC hl hf
    unfold f_X7_trader_39 at hf
    refine lv_iconst (v := 1) hx hb dX7_trader_39 (by decide) ?_
    refine lv_goto (tgt := 44) hx hb dX7_trader_40 (by decide) ?_
    exact J44 _ _ _ _ s0 1 hk_s0 hC (lv_sub hl [0, 1, 2, 3] rfl) hf
  unfold f_X7_trader at hf
  refine lv_aload_n hx hb dX7_trader_0 rfl (lv_at hl 0 rfl) ?_
  refine lv_iconst (v := 0) hx hb dX7_trader_1 (by decide) ?_
  obtain ⟨r1, er1, hf⟩ := zlet_inv hf
  refine zp_7_0 hx hb hts hi7 hown hK hC hk_th w0 er1 dX7_trader_2 (fun H locs hC => ?_)
  refine lv_aload_n hx hb dX7_trader_5 rfl (lv_at hl 0 rfl) ?_
  refine lv_aload_n hx hb dX7_trader_6 rfl (lv_at hl 0 rfl) ?_
  refine lv_iload_n hx hb dX7_trader_7 rfl (lv_at hl 2 rfl) ?_
  obtain ⟨x3, hc2, hf⟩ := zb_inv hf
  refine z_ci (z_rV (As := [.int p2]) (rest := [.ref th]) ⟨hx, hb, hml, hown, hts⟩ (c_X7_noTrade (l := l) (D := D) (cy := cy) (base := base) (st := st) (K := K) (L := L) (c := c) (r := r1) (o := o) (z := z) th p2 hk_th hc2) (cwV 1 hts gX7_trader_X7_noTrade rfl rfl rfl (by decide +kernel) ⟨Nat.le_of_ble_eq_true rfl, Nat.le_of_ble_eq_true rfl⟩) hG hC (zC.recv (ci := 7) (fs := _) hK hC (by rw [hk_th]; decide) (by rw [hk_th]; exact zc_7 cy _ _) rfl) rfl hl.1 rfl (lv_room (Nat.le_of_ble_eq_true rfl)) dX7_trader_8 ⟨Nat.le_of_ble_eq_true rfl, Nat.le_of_ble_eq_true rfl⟩) hC (fun H locs hC => ?_)
  refine lv_iconst (v := 1) hx hb dX7_trader_11 (by decide) ?_
  obtain ⟨x5, r6, hc4, hf⟩ := zb2_inv hf
  refine z_ci (z_rV (As := [.int x3, .int 1]) (rest := []) ⟨hx, hb, hml, hown, hts⟩ (c_X7_throwsIf (l := l) (D := D) (cy := cy) (base := base) (st := st) (K := K) (L := L) (c := c) (r := r1) (o := o) (z := z) th x3 1 hk_th hc4) (cwV 2 hts gX7_trader_X7_throwsIf rfl rfl rfl (by decide +kernel) ⟨Nat.le_of_ble_eq_true rfl, Nat.le_of_ble_eq_true rfl⟩) hG hC (zC.recv (ci := 7) (fs := _) hK hC (by rw [hk_th]; decide) (by rw [hk_th]; exact zc_7 cy _ _) rfl) rfl hl.1 rfl (lv_room (Nat.le_of_ble_eq_true rfl)) dX7_trader_12 ⟨Nat.le_of_ble_eq_true rfl, Nat.le_of_ble_eq_true rfl⟩) hC (fun H locs hC => ?_)
  refine lv_if_ne (tgt := 74) hx hb dX7_trader_15 (by decide) (fun h35 => ?_) (fun h35 => ?_)
  · have hf := zif_f hf h35
    refine lv_iconst (v := 0) hx hb dX7_trader_74 (by decide) ?_
    exact z_iretM hx hb hr hlocks hC hf dX7_trader_75
  · have hf := zif_t hf h35
    refine lv_aload_n hx hb dX7_trader_18 rfl (lv_at hl 0 rfl) ?_
    refine lv_iload_n hx hb dX7_trader_19 rfl (lv_at hl 1 rfl) ?_
    refine lv_if_lt (tgt := 39) hx hb dX7_trader_20 (by decide) (fun h34 => ?_) (fun h34 => ?_)
    · have hf := zif_t hf h34
      exact J39 _ _ _ _ th hk_th hC (lv_sub hl [0, 1, 2, 3] rfl) hf
    · have hf := zif_f hf h34
      refine lv_iload_n hx hb dX7_trader_23 rfl (lv_at hl 1 rfl) ?_
      refine lv_iconst (v := 4) hx hb dX7_trader_24 (by decide) ?_
      refine lv_icmp_gt (tgt := 39) hx hb dX7_trader_25 (by decide) (fun h33 => ?_) (fun h33 => ?_)
      · have hf := zif_t hf h33
        exact J39 _ _ _ _ th hk_th hC (lv_sub hl [0, 1, 2, 3] rfl) hf
      · have hf := zif_f hf h33
        refine lv_iload_n hx hb dX7_trader_28 rfl (lv_at hl 3 rfl) ?_
        refine lv_iconst (v := 1) hx hb dX7_trader_29 (by decide) ?_
        refine lv_icmp_lt (tgt := 39) hx hb dX7_trader_30 (by decide) (fun h32 => ?_) (fun h32 => ?_)
        · have hf := zif_t hf h32
          exact J39 _ _ _ _ th hk_th hC (lv_sub hl [0, 1, 2, 3] rfl) hf
        · have hf := zif_f hf h32
          refine lv_iload_n hx hb dX7_trader_33 rfl (lv_at hl 3 rfl) ?_
          refine lv_bipush (v := 20) hx hb dX7_trader_34 (by decide) ?_
          refine lv_icmp_le (tgt := 43) hx hb dX7_trader_36 (by decide) (fun h31 => ?_) (fun h31 => ?_)
          · have hf := zif_t hf h31
            refine lv_iconst (v := 0) hx hb dX7_trader_43 (by decide) ?_
            exact J44 _ _ _ _ th 0 hk_th hC (lv_sub hl [0, 1, 2, 3] rfl) hf
          · have hf := zif_f hf h31
            exact J39 _ _ _ _ th hk_th hC (lv_sub hl [0, 1, 2, 3] rfl) hf
def f_X7_noTrader (K : Nat → Nat) (z : Nat) (r : zS) (th : Nat) (p1 : Int32) : Option Int32 :=
  (if p1 < 0 then some 1 else (if p1 < (zi r 35 th 0) then some 0 else some 1))
set_option maxRecDepth 100000 in
set_option maxHeartbeats 4000000 in
theorem c_X7_noTrader {l : Launch} {D : va_G} {cy : Nat → ClassId} {base : Nat} {st : Nat → Nat} {K : Nat → Nat} {L : List Nat} {c r : zS} {o : Int64} {z : Nat} (th : Nat) (p1 : Int32) {rv : Int32}  (hk_th : K th = 7) (hf : f_X7_noTrader K z r th p1 = some rv) : Met l yX7_noTrader wsX7_noTrader ({ frames := 0, cells := 0, slots := 0, locals := 0 }) (va_Pc [.ref th, .int p1] (zGW zts0 zns0 D cy base st K L (c, r, o))) (va_Qi (fun (rr : Int32) (_ : Unit) => rr = rv) (fun _ => zB D cy base K L (c, r, o)) (zA base)) 0 0 (zA base) := by
  refine Met.ofW (cc := cX7_noTrader) (maxL := 2) (ret := (some .boolean)) (by decide) rfl ?_
  intro p e s m args below meth cd s₁ B hml hv
  obtain ⟨rfl, hG⟩ := hv
  have hx := B.exec
  have hb := B.bytes
  have hr := B.returns
  have hts := atoms_spec (ws := wsX7_noTrader) B.pre
  have hown : s.vm.findClass RX7 = some m.cls := findClass_of_methodNamed B.named
  have hlocks := B.notSynchronized
  have hC := hG.enter
  have hK := hG.2.2.2.1
  have hi7 : ∀ w ∈ wsX70, w ∈ wsX7_noTrader := by decide +kernel
  have w0 := hts (.fieldLink RX7 131 "MarketSquareModel" "traders" "I") (by decide +kernel)
  have hl := lv_entry ([.ref th, .int p1]) (n := 2) (Nat.le_of_ble_eq_true rfl)
  rw [lg_entry_eq]
  generalize (lg_sl ([.ref th, .int p1]) ++ List.replicate (2 - (lg_sl ([.ref th, .int p1])).length) Slot.unset).toArray = ls at hl ⊢
  have hl : lv_has ls 2 [(0, .ref th), (1, .int p1)] := hl
  unfold f_X7_noTrader at hf
  refine lv_iload_n hx hb dX7_noTrader_0 rfl (lv_at hl 1 rfl) ?_
  refine lv_if_lt (tgt := 12) hx hb dX7_noTrader_1 (by decide) (fun h2 => ?_) (fun h2 => ?_)
  · have hf := zif_t hf h2
    refine lv_iconst (v := 1) hx hb dX7_noTrader_12 (by decide) ?_
    refine lv_goto (tgt := 17) hx hb dX7_noTrader_13 (by decide) ?_
    exact z_zret hx hb hr hlocks hC (Or.inr rfl) hf dX7_noTrader_17
  · have hf := zif_f hf h2
    refine lv_iload_n hx hb dX7_noTrader_4 rfl (lv_at hl 1 rfl) ?_
    refine lv_aload_n hx hb dX7_noTrader_5 rfl (lv_at hl 0 rfl) ?_
    refine zg_7_35 hx hb hts hi7 hown hK hC hk_th w0 dX7_noTrader_6 ?_
    refine lv_icmp_lt (tgt := 16) hx hb dX7_noTrader_9 (by decide) (fun h1 => ?_) (fun h1 => ?_)
    · have hf := zif_t hf h1
      refine lv_iconst (v := 0) hx hb dX7_noTrader_16 (by decide) ?_
      exact z_zret hx hb hr hlocks hC (Or.inl rfl) hf dX7_noTrader_17
    · have hf := zif_f hf h1
      refine lv_iconst (v := 1) hx hb dX7_noTrader_12 (by decide) ?_
      refine lv_goto (tgt := 17) hx hb dX7_noTrader_13 (by decide) ?_
      exact z_zret hx hb hr hlocks hC (Or.inr rfl) hf dX7_noTrader_17
def f_X7_pitch_63 (K : Nat → Nat) (z : Nat) (th : Nat) (p1 : Int32) (p2 : Int32) (p3 : Int32) (rA : zS) (s0 : Nat) (s1 : Int32) : Option zS :=
  zb2 (f_X7_throwsIf K z rA s0 s1 3) fun x12 r13 => (if x12 = 0 then zn K (zr r13 12 th 0) 112 fun a14 => zx p1 200 <| zlet (zui r13 112 a14 (Int32.toNatClampNeg p1) 1) fun r15 => zn K (zr r15 13 th 0) 113 fun a16 => zx p1 200 <| zlet (zui r15 113 a16 (Int32.toNatClampNeg p1) p2) fun r17 => zn K (zr r17 14 th 0) 114 fun a18 => zx p1 200 <| zlet (zui r17 114 a18 (Int32.toNatClampNeg p1) p3) fun r19 => some r19 else some r13)
def f_X7_pitch_43 (K : Nat → Nat) (z : Nat) (th : Nat) (p1 : Int32) (p2 : Int32) (p3 : Int32) (rA : zS) (s0 : Nat) (s1 : Int32) : Option zS :=
  zb2 (f_X7_throwsIf K z rA s0 s1 2) fun x9 r10 => (if x9 = 0 then (if (zi r10 37 th 0) = 0 then f_X7_pitch_63 K z th p1 p2 p3 r10 th 0 else f_X7_pitch_63 K z th p1 p2 p3 r10 th 1) else some r10)
def f_X7_pitch_42 (K : Nat → Nat) (z : Nat) (th : Nat) (p1 : Int32) (p2 : Int32) (p3 : Int32) (rA : zS) (s0 : Nat) : Option zS :=
  f_X7_pitch_43 K z th p1 p2 p3 rA s0 0
def f_X7_pitch (K : Nat → Nat) (z : Nat) (r : zS) (th : Nat) (p1 : Int32) (p2 : Int32) (p3 : Int32) : Option zS :=
  zlet (zui r 0 th 0 0) fun r1 => zb (f_X7_noTrader K z r1 th p1) fun x3 => zb2 (f_X7_throwsIf K z r1 th x3 1) fun x5 r6 => (if x5 = 0 then zn K (zr r6 8 th 0) 108 fun a7 => zx p1 200 <| (if (zi r6 108 a7 (Int32.toNatClampNeg p1)) = 0 then f_X7_pitch_42 K z th p1 p2 p3 r6 th else zx p1 200 <| (if (zi r6 108 a7 (Int32.toNatClampNeg p1)) = 2 then f_X7_pitch_42 K z th p1 p2 p3 r6 th else f_X7_pitch_43 K z th p1 p2 p3 r6 th 1)) else some r6)
set_option maxRecDepth 100000 in
set_option maxHeartbeats 4000000 in
theorem c_X7_pitch {l : Launch} {D : va_G} {cy : Nat → ClassId} {base : Nat} {st : Nat → Nat} {K : Nat → Nat} {L : List Nat} {c r : zS} {o : Int64} {z : Nat} (th : Nat) (p1 : Int32) (p2 : Int32) (p3 : Int32) {rf : zS}  (hk_th : K th = 7) (hf : f_X7_pitch K z r th p1 p2 p3 = some rf) : Met l yX7_pitch wsX7_pitch ({ frames := 1, cells := 0, slots := 0, locals := 22 }) (va_Pc [.ref th, .int p1, .int p2, .int p3] (zGW zts0 zns0 D cy base st K L (c, r, o))) (va_Qv (fun (_ : Unit) => True) (fun _ => zB D cy base K L (c, rf, o)) (zA base)) 0 0 (zA base) := by
  refine Met.ofW (cc := cX7_pitch) (maxL := 4) (ret := none) (by decide) rfl ?_
  intro p e s m args below meth cd s₁ B hml hv
  obtain ⟨rfl, hG⟩ := hv
  have hx := B.exec
  have hb := B.bytes
  have hr := B.returns
  have hts := atoms_spec (ws := wsX7_pitch) B.pre
  have hown : s.vm.findClass RX7 = some m.cls := findClass_of_methodNamed B.named
  have hlocks := B.notSynchronized
  have hC := hG.enter
  have hK := hG.2.2.2.1
  have hi7 : ∀ w ∈ wsX70, w ∈ wsX7_pitch := by decide +kernel
  have w0 := hts (.fieldLink RX7 127 "MarketSquareModel" "thrown" "I") (by decide +kernel)
  have w1 := hts (.fieldLink RX7 30 "MarketSquareModel" "kind" "[I") (by decide +kernel)
  have w2 := hts (.fieldLink RX7 214 "MarketSquareModel" "time" "I") (by decide +kernel)
  have w3 := hts (.fieldLink RX7 42 "MarketSquareModel" "hasPitch" "[Z") (by decide +kernel)
  have w4 := hts (.fieldLink RX7 45 "MarketSquareModel" "pitchRow" "[I") (by decide +kernel)
  have w5 := hts (.fieldLink RX7 48 "MarketSquareModel" "pitchPlace" "[I") (by decide +kernel)
  have hl := lv_entry ([.ref th, .int p1, .int p2, .int p3]) (n := 4) (Nat.le_of_ble_eq_true rfl)
  rw [lg_entry_eq]
  generalize (lg_sl ([.ref th, .int p1, .int p2, .int p3]) ++ List.replicate (4 - (lg_sl ([.ref th, .int p1, .int p2, .int p3])).length) Slot.unset).toArray = ls at hl ⊢
  have hl : lv_has ls 4 [(0, .ref th), (1, .int p1), (2, .int p2), (3, .int p3)] := hl
  have J63 : ∀ (rA : zS) (H : Heap) (locs : List Loc) (ls : Array Slot) (s0 : Nat) (s1 : Int32), K s0 = 7 → zC D cy base K L (c, rA, o) s.heap H locs → lv_has ls 4 [(0, .ref th), (1, .int p1), (2, .int p2), (3, .int p3)] → f_X7_pitch_63 K z th p1 p2 p3 rA s0 s1 = some rf → W p l e (headSpec wsX7_pitch ({ frames := 1, cells := 0, slots := 0, locals := 22 })).room s m ([.ref th, .int p1, .int p2, .int p3] : List Value).toArray below meth cd H locs 0 0 (MQ below (va_Qv (fun (_ : Unit) => True) (fun _ => zB D cy base K L (c, rf, o)) (zA base)) ([.ref th, .int p1, .int p2, .int p3] : List Value).toArray s 0 0 (zA base)) (F0 m 63 ls [.int s1, .ref s0]) := by
    intro rA H locs ls s0 s1 hk_s0 hC hl hf
    unfold f_X7_pitch_63 at hf
    refine lv_iconst (v := 3) hx hb dX7_pitch_63 (by decide) ?_
    obtain ⟨x12, r13, hc11, hf⟩ := zb2_inv hf
    refine z_ci (z_rV (As := [.int s1, .int 3]) (rest := []) ⟨hx, hb, hml, hown, hts⟩ (c_X7_throwsIf (l := l) (D := D) (cy := cy) (base := base) (st := st) (K := K) (L := L) (c := c) (r := rA) (o := o) (z := z) s0 s1 3 hk_s0 hc11) (cwV 2 hts gX7_pitch_X7_throwsIf rfl rfl rfl (by decide +kernel) ⟨Nat.le_of_ble_eq_true rfl, Nat.le_of_ble_eq_true rfl⟩) hG hC (zC.recv (ci := 7) (fs := _) hK hC (by rw [hk_s0]; decide) (by rw [hk_s0]; exact zc_7 cy _ _) rfl) rfl hl.1 rfl (lv_room (Nat.le_of_ble_eq_true rfl)) dX7_pitch_64 ⟨Nat.le_of_ble_eq_true rfl, Nat.le_of_ble_eq_true rfl⟩) hC (fun H locs hC => ?_)
    refine lv_if_eq (tgt := 71) hx hb dX7_pitch_67 (by decide) (fun h20 => ?_) (fun h20 => ?_)
    · have hf := zif_t hf h20
      refine lv_aload_n hx hb dX7_pitch_71 rfl (lv_at hl 0 rfl) ?_
      refine zg_7_12 hx hb hts hi7 hown hK hC hk_th w3 dX7_pitch_72 ?_
      obtain ⟨a14, ea14, hk_a14, hf⟩ := zn_inv hf
      refine z_ref ea14 ?_
      refine lv_iload_n hx hb dX7_pitch_75 rfl (lv_at hl 1 rfl) ?_
      refine lv_iconst (v := 1) hx hb dX7_pitch_76 (by decide) ?_
      obtain ⟨hix, hf⟩ := zx_inv hf
      obtain ⟨r15, er15, hf⟩ := zlet_inv hf
      refine xp_112 hx hb hK hC hk_a14 hix (Or.inr rfl) er15 dX7_pitch_77 (fun H locs hC => ?_)
      refine lv_aload_n hx hb dX7_pitch_78 rfl (lv_at hl 0 rfl) ?_
      refine zg_7_13 hx hb hts hi7 hown hK hC hk_th w4 dX7_pitch_79 ?_
      obtain ⟨a16, ea16, hk_a16, hf⟩ := zn_inv hf
      refine z_ref ea16 ?_
      refine lv_iload_n hx hb dX7_pitch_82 rfl (lv_at hl 1 rfl) ?_
      refine lv_iload_n hx hb dX7_pitch_83 rfl (lv_at hl 2 rfl) ?_
      obtain ⟨hix, hf⟩ := zx_inv hf
      obtain ⟨r17, er17, hf⟩ := zlet_inv hf
      refine xp_113 hx hb hK hC hk_a16 hix er17 dX7_pitch_84 (fun H locs hC => ?_)
      refine lv_aload_n hx hb dX7_pitch_85 rfl (lv_at hl 0 rfl) ?_
      refine zg_7_14 hx hb hts hi7 hown hK hC hk_th w5 dX7_pitch_86 ?_
      obtain ⟨a18, ea18, hk_a18, hf⟩ := zn_inv hf
      refine z_ref ea18 ?_
      refine lv_iload_n hx hb dX7_pitch_89 rfl (lv_at hl 1 rfl) ?_
      refine lv_iload_n hx hb dX7_pitch_90 rfl (lv_at hl 3 rfl) ?_
      obtain ⟨hix, hf⟩ := zx_inv hf
      obtain ⟨r19, er19, hf⟩ := zlet_inv hf
      refine xp_114 hx hb hK hC hk_a18 hix er19 dX7_pitch_91 (fun H locs hC => ?_)
      exact z_vretM hx hb hr hlocks hC hf dX7_pitch_92
    · have hf := zif_f hf h20
      exact z_vretM hx hb hr hlocks hC hf dX7_pitch_70
  have J43 : ∀ (rA : zS) (H : Heap) (locs : List Loc) (ls : Array Slot) (s0 : Nat) (s1 : Int32), K s0 = 7 → zC D cy base K L (c, rA, o) s.heap H locs → lv_has ls 4 [(0, .ref th), (1, .int p1), (2, .int p2), (3, .int p3)] → f_X7_pitch_43 K z th p1 p2 p3 rA s0 s1 = some rf → W p l e (headSpec wsX7_pitch ({ frames := 1, cells := 0, slots := 0, locals := 22 })).room s m ([.ref th, .int p1, .int p2, .int p3] : List Value).toArray below meth cd H locs 0 0 (MQ below (va_Qv (fun (_ : Unit) => True) (fun _ => zB D cy base K L (c, rf, o)) (zA base)) ([.ref th, .int p1, .int p2, .int p3] : List Value).toArray s 0 0 (zA base)) (F0 m 43 ls [.int s1, .ref s0]) := by
    intro rA H locs ls s0 s1 hk_s0 hC hl hf
    unfold f_X7_pitch_43 at hf
    refine lv_iconst (v := 2) hx hb dX7_pitch_43 (by decide) ?_
    obtain ⟨x9, r10, hc8, hf⟩ := zb2_inv hf
    refine z_ci (z_rV (As := [.int s1, .int 2]) (rest := []) ⟨hx, hb, hml, hown, hts⟩ (c_X7_throwsIf (l := l) (D := D) (cy := cy) (base := base) (st := st) (K := K) (L := L) (c := c) (r := rA) (o := o) (z := z) s0 s1 2 hk_s0 hc8) (cwV 2 hts gX7_pitch_X7_throwsIf rfl rfl rfl (by decide +kernel) ⟨Nat.le_of_ble_eq_true rfl, Nat.le_of_ble_eq_true rfl⟩) hG hC (zC.recv (ci := 7) (fs := _) hK hC (by rw [hk_s0]; decide) (by rw [hk_s0]; exact zc_7 cy _ _) rfl) rfl hl.1 rfl (lv_room (Nat.le_of_ble_eq_true rfl)) dX7_pitch_44 ⟨Nat.le_of_ble_eq_true rfl, Nat.le_of_ble_eq_true rfl⟩) hC (fun H locs hC => ?_)
    refine lv_if_ne (tgt := 70) hx hb dX7_pitch_47 (by decide) (fun h22 => ?_) (fun h22 => ?_)
    · have hf := zif_f hf h22
      exact z_vretM hx hb hr hlocks hC hf dX7_pitch_70
    · have hf := zif_t hf h22
      refine lv_aload_n hx hb dX7_pitch_50 rfl (lv_at hl 0 rfl) ?_
      refine lv_aload_n hx hb dX7_pitch_51 rfl (lv_at hl 0 rfl) ?_
      refine zg_7_37 hx hb hts hi7 hown hK hC hk_th w2 dX7_pitch_52 ?_
      refine lv_if_eq (tgt := 62) hx hb dX7_pitch_55 (by decide) (fun h21 => ?_) (fun h21 => ?_)
      · have hf := zif_t hf h21
        refine lv_iconst (v := 0) hx hb dX7_pitch_62 (by decide) ?_
        exact J63 _ _ _ _ th 0 hk_th hC (lv_sub hl [0, 1, 2, 3] rfl) hf
      · have hf := zif_f hf h21
        refine lv_iconst (v := 1) hx hb dX7_pitch_58 (by decide) ?_
        refine lv_goto (tgt := 63) hx hb dX7_pitch_59 (by decide) ?_
        exact J63 _ _ _ _ th 1 hk_th hC (lv_sub hl [0, 1, 2, 3] rfl) hf
  have J42 : ∀ (rA : zS) (H : Heap) (locs : List Loc) (ls : Array Slot) (s0 : Nat), K s0 = 7 → zC D cy base K L (c, rA, o) s.heap H locs → lv_has ls 4 [(0, .ref th), (1, .int p1), (2, .int p2), (3, .int p3)] → f_X7_pitch_42 K z th p1 p2 p3 rA s0 = some rf → W p l e (headSpec wsX7_pitch ({ frames := 1, cells := 0, slots := 0, locals := 22 })).room s m ([.ref th, .int p1, .int p2, .int p3] : List Value).toArray below meth cd H locs 0 0 (MQ below (va_Qv (fun (_ : Unit) => True) (fun _ => zB D cy base K L (c, rf, o)) (zA base)) ([.ref th, .int p1, .int p2, .int p3] : List Value).toArray s 0 0 (zA base)) (F0 m 42 ls [.ref s0]) := by
    intro rA H locs ls s0 hk_s0 hC hl hf
    unfold f_X7_pitch_42 at hf
    refine lv_iconst (v := 0) hx hb dX7_pitch_42 (by decide) ?_
    exact J43 _ _ _ _ s0 0 hk_s0 hC (lv_sub hl [0, 1, 2, 3] rfl) hf
  unfold f_X7_pitch at hf
  refine lv_aload_n hx hb dX7_pitch_0 rfl (lv_at hl 0 rfl) ?_
  refine lv_iconst (v := 0) hx hb dX7_pitch_1 (by decide) ?_
  obtain ⟨r1, er1, hf⟩ := zlet_inv hf
  refine zp_7_0 hx hb hts hi7 hown hK hC hk_th w0 er1 dX7_pitch_2 (fun H locs hC => ?_)
  refine lv_aload_n hx hb dX7_pitch_5 rfl (lv_at hl 0 rfl) ?_
  refine lv_aload_n hx hb dX7_pitch_6 rfl (lv_at hl 0 rfl) ?_
  refine lv_iload_n hx hb dX7_pitch_7 rfl (lv_at hl 1 rfl) ?_
  obtain ⟨x3, hc2, hf⟩ := zb_inv hf
  refine z_ci (z_rV (As := [.int p1]) (rest := [.ref th]) ⟨hx, hb, hml, hown, hts⟩ (c_X7_noTrader (l := l) (D := D) (cy := cy) (base := base) (st := st) (K := K) (L := L) (c := c) (r := r1) (o := o) (z := z) th p1 hk_th hc2) (cwV 1 hts gX7_pitch_X7_noTrader rfl rfl rfl (by decide +kernel) ⟨Nat.le_of_ble_eq_true rfl, Nat.le_of_ble_eq_true rfl⟩) hG hC (zC.recv (ci := 7) (fs := _) hK hC (by rw [hk_th]; decide) (by rw [hk_th]; exact zc_7 cy _ _) rfl) rfl hl.1 rfl (lv_room (Nat.le_of_ble_eq_true rfl)) dX7_pitch_8 ⟨Nat.le_of_ble_eq_true rfl, Nat.le_of_ble_eq_true rfl⟩) hC (fun H locs hC => ?_)
  refine lv_iconst (v := 1) hx hb dX7_pitch_11 (by decide) ?_
  obtain ⟨x5, r6, hc4, hf⟩ := zb2_inv hf
  refine z_ci (z_rV (As := [.int x3, .int 1]) (rest := []) ⟨hx, hb, hml, hown, hts⟩ (c_X7_throwsIf (l := l) (D := D) (cy := cy) (base := base) (st := st) (K := K) (L := L) (c := c) (r := r1) (o := o) (z := z) th x3 1 hk_th hc4) (cwV 2 hts gX7_pitch_X7_throwsIf rfl rfl rfl (by decide +kernel) ⟨Nat.le_of_ble_eq_true rfl, Nat.le_of_ble_eq_true rfl⟩) hG hC (zC.recv (ci := 7) (fs := _) hK hC (by rw [hk_th]; decide) (by rw [hk_th]; exact zc_7 cy _ _) rfl) rfl hl.1 rfl (lv_room (Nat.le_of_ble_eq_true rfl)) dX7_pitch_12 ⟨Nat.le_of_ble_eq_true rfl, Nat.le_of_ble_eq_true rfl⟩) hC (fun H locs hC => ?_)
  refine lv_if_ne (tgt := 70) hx hb dX7_pitch_15 (by decide) (fun h25 => ?_) (fun h25 => ?_)
  · have hf := zif_f hf h25
    exact z_vretM hx hb hr hlocks hC hf dX7_pitch_70
  · have hf := zif_t hf h25
    refine lv_aload_n hx hb dX7_pitch_18 rfl (lv_at hl 0 rfl) ?_
    refine lv_aload_n hx hb dX7_pitch_19 rfl (lv_at hl 0 rfl) ?_
    refine zg_7_8 hx hb hts hi7 hown hK hC hk_th w1 dX7_pitch_20 ?_
    obtain ⟨a7, ea7, hk_a7, hf⟩ := zn_inv hf
    refine z_ref ea7 ?_
    refine lv_iload_n hx hb dX7_pitch_23 rfl (lv_at hl 1 rfl) ?_
    obtain ⟨hix, hf⟩ := zx_inv hf
    refine xg_108 hx hb hK hC hk_a7 hix dX7_pitch_24 ?_
    refine lv_if_eq (tgt := 42) hx hb dX7_pitch_25 (by decide) (fun h24 => ?_) (fun h24 => ?_)
    · have hf := zif_t hf h24
      exact J42 _ _ _ _ th hk_th hC (lv_sub hl [0, 1, 2, 3] rfl) hf
    · have hf := zif_f hf h24
      refine lv_aload_n hx hb dX7_pitch_28 rfl (lv_at hl 0 rfl) ?_
      refine zg_7_8 hx hb hts hi7 hown hK hC hk_th w1 dX7_pitch_29 ?_
      refine z_ref ea7 ?_
      refine lv_iload_n hx hb dX7_pitch_32 rfl (lv_at hl 1 rfl) ?_
      obtain ⟨hix, hf⟩ := zx_inv hf
      refine xg_108 hx hb hK hC hk_a7 hix dX7_pitch_33 ?_
      refine lv_iconst (v := 2) hx hb dX7_pitch_34 (by decide) ?_
      refine lv_icmp_eq (tgt := 42) hx hb dX7_pitch_35 (by decide) (fun h23 => ?_) (fun h23 => ?_)
      · have hf := zif_t hf h23
        exact J42 _ _ _ _ th hk_th hC (lv_sub hl [0, 1, 2, 3] rfl) hf
      · have hf := zif_f hf h23
        refine lv_iconst (v := 1) hx hb dX7_pitch_38 (by decide) ?_
        refine lv_goto (tgt := 43) hx hb dX7_pitch_39 (by decide) ?_
        exact J43 _ _ _ _ th 1 hk_th hC (lv_sub hl [0, 1, 2, 3] rfl) hf
def f_X7_months_65 (K : Nat → Nat) (z : Nat) (th : Nat) (p1 : Int32) (p2 : Int32) (rA : zS) (s0 : Nat) (s1 : Int32) : Option zS :=
  zb2 (f_X7_throwsIf K z rA s0 s1 3) fun x12 r13 => (if x12 = 0 then zn K (zr r13 15 th 0) 115 fun a14 => zx p1 200 <| zlet (zui r13 115 a14 (Int32.toNatClampNeg p1) p2) fun r15 => some r15 else some r13)
def f_X7_months_45 (K : Nat → Nat) (z : Nat) (th : Nat) (p1 : Int32) (p2 : Int32) (rA : zS) (s0 : Nat) (s1 : Int32) : Option zS :=
  zb2 (f_X7_throwsIf K z rA s0 s1 2) fun x9 r10 => (if x9 = 0 then (if (zi r10 37 th 0) = 0 then f_X7_months_65 K z th p1 p2 r10 th 0 else f_X7_months_65 K z th p1 p2 r10 th 1) else some r10)
def f_X7_months_40 (K : Nat → Nat) (z : Nat) (th : Nat) (p1 : Int32) (p2 : Int32) (rA : zS) (s0 : Nat) : Option zS :=
  f_X7_months_45 K z th p1 p2 rA s0 1
def f_X7_months (K : Nat → Nat) (z : Nat) (r : zS) (th : Nat) (p1 : Int32) (p2 : Int32) : Option zS :=
  zlet (zui r 0 th 0 0) fun r1 => zb (f_X7_noTrader K z r1 th p1) fun x3 => zb2 (f_X7_throwsIf K z r1 th x3 1) fun x5 r6 => (if x5 = 0 then zn K (zr r6 8 th 0) 108 fun a7 => zx p1 200 <| (if (zi r6 108 a7 (Int32.toNatClampNeg p1)) = 2 then (if p2 < 0 then f_X7_months_40 K z th p1 p2 r6 th else (if p2 ≤ 4095 then f_X7_months_45 K z th p1 p2 r6 th 0 else f_X7_months_40 K z th p1 p2 r6 th)) else f_X7_months_40 K z th p1 p2 r6 th) else some r6)
set_option maxRecDepth 100000 in
set_option maxHeartbeats 4000000 in
theorem c_X7_months {l : Launch} {D : va_G} {cy : Nat → ClassId} {base : Nat} {st : Nat → Nat} {K : Nat → Nat} {L : List Nat} {c r : zS} {o : Int64} {z : Nat} (th : Nat) (p1 : Int32) (p2 : Int32) {rf : zS}  (hk_th : K th = 7) (hf : f_X7_months K z r th p1 p2 = some rf) : Met l yX7_months wsX7_months ({ frames := 1, cells := 0, slots := 0, locals := 22 }) (va_Pc [.ref th, .int p1, .int p2] (zGW zts0 zns0 D cy base st K L (c, r, o))) (va_Qv (fun (_ : Unit) => True) (fun _ => zB D cy base K L (c, rf, o)) (zA base)) 0 0 (zA base) := by
  refine Met.ofW (cc := cX7_months) (maxL := 3) (ret := none) (by decide) rfl ?_
  intro p e s m args below meth cd s₁ B hml hv
  obtain ⟨rfl, hG⟩ := hv
  have hx := B.exec
  have hb := B.bytes
  have hr := B.returns
  have hts := atoms_spec (ws := wsX7_months) B.pre
  have hown : s.vm.findClass RX7 = some m.cls := findClass_of_methodNamed B.named
  have hlocks := B.notSynchronized
  have hC := hG.enter
  have hK := hG.2.2.2.1
  have hi7 : ∀ w ∈ wsX70, w ∈ wsX7_months := by decide +kernel
  have w0 := hts (.fieldLink RX7 127 "MarketSquareModel" "thrown" "I") (by decide +kernel)
  have w1 := hts (.fieldLink RX7 30 "MarketSquareModel" "kind" "[I") (by decide +kernel)
  have w2 := hts (.fieldLink RX7 214 "MarketSquareModel" "time" "I") (by decide +kernel)
  have w3 := hts (.fieldLink RX7 51 "MarketSquareModel" "monthBits" "[I") (by decide +kernel)
  have hl := lv_entry ([.ref th, .int p1, .int p2]) (n := 3) (Nat.le_of_ble_eq_true rfl)
  rw [lg_entry_eq]
  generalize (lg_sl ([.ref th, .int p1, .int p2]) ++ List.replicate (3 - (lg_sl ([.ref th, .int p1, .int p2])).length) Slot.unset).toArray = ls at hl ⊢
  have hl : lv_has ls 3 [(0, .ref th), (1, .int p1), (2, .int p2)] := hl
  have J65 : ∀ (rA : zS) (H : Heap) (locs : List Loc) (ls : Array Slot) (s0 : Nat) (s1 : Int32), K s0 = 7 → zC D cy base K L (c, rA, o) s.heap H locs → lv_has ls 3 [(0, .ref th), (1, .int p1), (2, .int p2)] → f_X7_months_65 K z th p1 p2 rA s0 s1 = some rf → W p l e (headSpec wsX7_months ({ frames := 1, cells := 0, slots := 0, locals := 22 })).room s m ([.ref th, .int p1, .int p2] : List Value).toArray below meth cd H locs 0 0 (MQ below (va_Qv (fun (_ : Unit) => True) (fun _ => zB D cy base K L (c, rf, o)) (zA base)) ([.ref th, .int p1, .int p2] : List Value).toArray s 0 0 (zA base)) (F0 m 65 ls [.int s1, .ref s0]) := by
    intro rA H locs ls s0 s1 hk_s0 hC hl hf
    unfold f_X7_months_65 at hf
    refine lv_iconst (v := 3) hx hb dX7_months_65 (by decide) ?_
    obtain ⟨x12, r13, hc11, hf⟩ := zb2_inv hf
    refine z_ci (z_rV (As := [.int s1, .int 3]) (rest := []) ⟨hx, hb, hml, hown, hts⟩ (c_X7_throwsIf (l := l) (D := D) (cy := cy) (base := base) (st := st) (K := K) (L := L) (c := c) (r := rA) (o := o) (z := z) s0 s1 3 hk_s0 hc11) (cwV 2 hts gX7_months_X7_throwsIf rfl rfl rfl (by decide +kernel) ⟨Nat.le_of_ble_eq_true rfl, Nat.le_of_ble_eq_true rfl⟩) hG hC (zC.recv (ci := 7) (fs := _) hK hC (by rw [hk_s0]; decide) (by rw [hk_s0]; exact zc_7 cy _ _) rfl) rfl hl.1 rfl (lv_room (Nat.le_of_ble_eq_true rfl)) dX7_months_66 ⟨Nat.le_of_ble_eq_true rfl, Nat.le_of_ble_eq_true rfl⟩) hC (fun H locs hC => ?_)
    refine lv_if_eq (tgt := 73) hx hb dX7_months_69 (by decide) (fun h16 => ?_) (fun h16 => ?_)
    · have hf := zif_t hf h16
      refine lv_aload_n hx hb dX7_months_73 rfl (lv_at hl 0 rfl) ?_
      refine zg_7_15 hx hb hts hi7 hown hK hC hk_th w3 dX7_months_74 ?_
      obtain ⟨a14, ea14, hk_a14, hf⟩ := zn_inv hf
      refine z_ref ea14 ?_
      refine lv_iload_n hx hb dX7_months_77 rfl (lv_at hl 1 rfl) ?_
      refine lv_iload_n hx hb dX7_months_78 rfl (lv_at hl 2 rfl) ?_
      obtain ⟨hix, hf⟩ := zx_inv hf
      obtain ⟨r15, er15, hf⟩ := zlet_inv hf
      refine xp_115 hx hb hK hC hk_a14 hix er15 dX7_months_79 (fun H locs hC => ?_)
      exact z_vretM hx hb hr hlocks hC hf dX7_months_80
    · have hf := zif_f hf h16
      exact z_vretM hx hb hr hlocks hC hf dX7_months_72
  have J45 : ∀ (rA : zS) (H : Heap) (locs : List Loc) (ls : Array Slot) (s0 : Nat) (s1 : Int32), K s0 = 7 → zC D cy base K L (c, rA, o) s.heap H locs → lv_has ls 3 [(0, .ref th), (1, .int p1), (2, .int p2)] → f_X7_months_45 K z th p1 p2 rA s0 s1 = some rf → W p l e (headSpec wsX7_months ({ frames := 1, cells := 0, slots := 0, locals := 22 })).room s m ([.ref th, .int p1, .int p2] : List Value).toArray below meth cd H locs 0 0 (MQ below (va_Qv (fun (_ : Unit) => True) (fun _ => zB D cy base K L (c, rf, o)) (zA base)) ([.ref th, .int p1, .int p2] : List Value).toArray s 0 0 (zA base)) (F0 m 45 ls [.int s1, .ref s0]) := by
    intro rA H locs ls s0 s1 hk_s0 hC hl hf
    unfold f_X7_months_45 at hf
    refine lv_iconst (v := 2) hx hb dX7_months_45 (by decide) ?_
    obtain ⟨x9, r10, hc8, hf⟩ := zb2_inv hf
    refine z_ci (z_rV (As := [.int s1, .int 2]) (rest := []) ⟨hx, hb, hml, hown, hts⟩ (c_X7_throwsIf (l := l) (D := D) (cy := cy) (base := base) (st := st) (K := K) (L := L) (c := c) (r := rA) (o := o) (z := z) s0 s1 2 hk_s0 hc8) (cwV 2 hts gX7_months_X7_throwsIf rfl rfl rfl (by decide +kernel) ⟨Nat.le_of_ble_eq_true rfl, Nat.le_of_ble_eq_true rfl⟩) hG hC (zC.recv (ci := 7) (fs := _) hK hC (by rw [hk_s0]; decide) (by rw [hk_s0]; exact zc_7 cy _ _) rfl) rfl hl.1 rfl (lv_room (Nat.le_of_ble_eq_true rfl)) dX7_months_46 ⟨Nat.le_of_ble_eq_true rfl, Nat.le_of_ble_eq_true rfl⟩) hC (fun H locs hC => ?_)
    refine lv_if_ne (tgt := 72) hx hb dX7_months_49 (by decide) (fun h18 => ?_) (fun h18 => ?_)
    · have hf := zif_f hf h18
      exact z_vretM hx hb hr hlocks hC hf dX7_months_72
    · have hf := zif_t hf h18
      refine lv_aload_n hx hb dX7_months_52 rfl (lv_at hl 0 rfl) ?_
      refine lv_aload_n hx hb dX7_months_53 rfl (lv_at hl 0 rfl) ?_
      refine zg_7_37 hx hb hts hi7 hown hK hC hk_th w2 dX7_months_54 ?_
      refine lv_if_eq (tgt := 64) hx hb dX7_months_57 (by decide) (fun h17 => ?_) (fun h17 => ?_)
      · have hf := zif_t hf h17
        refine lv_iconst (v := 0) hx hb dX7_months_64 (by decide) ?_
        exact J65 _ _ _ _ th 0 hk_th hC (lv_sub hl [0, 1, 2] rfl) hf
      · have hf := zif_f hf h17
        refine lv_iconst (v := 1) hx hb dX7_months_60 (by decide) ?_
        refine lv_goto (tgt := 65) hx hb dX7_months_61 (by decide) ?_
        exact J65 _ _ _ _ th 1 hk_th hC (lv_sub hl [0, 1, 2] rfl) hf
  have J40 : ∀ (rA : zS) (H : Heap) (locs : List Loc) (ls : Array Slot) (s0 : Nat), K s0 = 7 → zC D cy base K L (c, rA, o) s.heap H locs → lv_has ls 3 [(0, .ref th), (1, .int p1), (2, .int p2)] → f_X7_months_40 K z th p1 p2 rA s0 = some rf → W p l e (headSpec wsX7_months ({ frames := 1, cells := 0, slots := 0, locals := 22 })).room s m ([.ref th, .int p1, .int p2] : List Value).toArray below meth cd H locs 0 0 (MQ below (va_Qv (fun (_ : Unit) => True) (fun _ => zB D cy base K L (c, rf, o)) (zA base)) ([.ref th, .int p1, .int p2] : List Value).toArray s 0 0 (zA base)) (F0 m 40 ls [.ref s0]) := by
    intro rA H locs ls s0 hk_s0 hC hl hf
    unfold f_X7_months_40 at hf
    refine lv_iconst (v := 1) hx hb dX7_months_40 (by decide) ?_
    refine lv_goto (tgt := 45) hx hb dX7_months_41 (by decide) ?_
    exact J45 _ _ _ _ s0 1 hk_s0 hC (lv_sub hl [0, 1, 2] rfl) hf
  unfold f_X7_months at hf
  refine lv_aload_n hx hb dX7_months_0 rfl (lv_at hl 0 rfl) ?_
  refine lv_iconst (v := 0) hx hb dX7_months_1 (by decide) ?_
  obtain ⟨r1, er1, hf⟩ := zlet_inv hf
  refine zp_7_0 hx hb hts hi7 hown hK hC hk_th w0 er1 dX7_months_2 (fun H locs hC => ?_)
  refine lv_aload_n hx hb dX7_months_5 rfl (lv_at hl 0 rfl) ?_
  refine lv_aload_n hx hb dX7_months_6 rfl (lv_at hl 0 rfl) ?_
  refine lv_iload_n hx hb dX7_months_7 rfl (lv_at hl 1 rfl) ?_
  obtain ⟨x3, hc2, hf⟩ := zb_inv hf
  refine z_ci (z_rV (As := [.int p1]) (rest := [.ref th]) ⟨hx, hb, hml, hown, hts⟩ (c_X7_noTrader (l := l) (D := D) (cy := cy) (base := base) (st := st) (K := K) (L := L) (c := c) (r := r1) (o := o) (z := z) th p1 hk_th hc2) (cwV 1 hts gX7_months_X7_noTrader rfl rfl rfl (by decide +kernel) ⟨Nat.le_of_ble_eq_true rfl, Nat.le_of_ble_eq_true rfl⟩) hG hC (zC.recv (ci := 7) (fs := _) hK hC (by rw [hk_th]; decide) (by rw [hk_th]; exact zc_7 cy _ _) rfl) rfl hl.1 rfl (lv_room (Nat.le_of_ble_eq_true rfl)) dX7_months_8 ⟨Nat.le_of_ble_eq_true rfl, Nat.le_of_ble_eq_true rfl⟩) hC (fun H locs hC => ?_)
  refine lv_iconst (v := 1) hx hb dX7_months_11 (by decide) ?_
  obtain ⟨x5, r6, hc4, hf⟩ := zb2_inv hf
  refine z_ci (z_rV (As := [.int x3, .int 1]) (rest := []) ⟨hx, hb, hml, hown, hts⟩ (c_X7_throwsIf (l := l) (D := D) (cy := cy) (base := base) (st := st) (K := K) (L := L) (c := c) (r := r1) (o := o) (z := z) th x3 1 hk_th hc4) (cwV 2 hts gX7_months_X7_throwsIf rfl rfl rfl (by decide +kernel) ⟨Nat.le_of_ble_eq_true rfl, Nat.le_of_ble_eq_true rfl⟩) hG hC (zC.recv (ci := 7) (fs := _) hK hC (by rw [hk_th]; decide) (by rw [hk_th]; exact zc_7 cy _ _) rfl) rfl hl.1 rfl (lv_room (Nat.le_of_ble_eq_true rfl)) dX7_months_12 ⟨Nat.le_of_ble_eq_true rfl, Nat.le_of_ble_eq_true rfl⟩) hC (fun H locs hC => ?_)
  refine lv_if_ne (tgt := 72) hx hb dX7_months_15 (by decide) (fun h22 => ?_) (fun h22 => ?_)
  · have hf := zif_f hf h22
    exact z_vretM hx hb hr hlocks hC hf dX7_months_72
  · have hf := zif_t hf h22
    refine lv_aload_n hx hb dX7_months_18 rfl (lv_at hl 0 rfl) ?_
    refine lv_aload_n hx hb dX7_months_19 rfl (lv_at hl 0 rfl) ?_
    refine zg_7_8 hx hb hts hi7 hown hK hC hk_th w1 dX7_months_20 ?_
    obtain ⟨a7, ea7, hk_a7, hf⟩ := zn_inv hf
    refine z_ref ea7 ?_
    refine lv_iload_n hx hb dX7_months_23 rfl (lv_at hl 1 rfl) ?_
    obtain ⟨hix, hf⟩ := zx_inv hf
    refine xg_108 hx hb hK hC hk_a7 hix dX7_months_24 ?_
    refine lv_iconst (v := 2) hx hb dX7_months_25 (by decide) ?_
    refine lv_icmp_ne (tgt := 40) hx hb dX7_months_26 (by decide) (fun h21 => ?_) (fun h21 => ?_)
    · have hf := zif_f hf h21
      exact J40 _ _ _ _ th hk_th hC (lv_sub hl [0, 1, 2] rfl) hf
    · have hf := zif_t hf h21
      refine lv_iload_n hx hb dX7_months_29 rfl (lv_at hl 2 rfl) ?_
      refine lv_if_lt (tgt := 40) hx hb dX7_months_30 (by decide) (fun h20 => ?_) (fun h20 => ?_)
      · have hf := zif_t hf h20
        exact J40 _ _ _ _ th hk_th hC (lv_sub hl [0, 1, 2] rfl) hf
      · have hf := zif_f hf h20
        refine lv_iload_n hx hb dX7_months_33 rfl (lv_at hl 2 rfl) ?_
        refine lv_sipush (v := 4095) hx hb dX7_months_34 (by decide) ?_
        refine lv_icmp_le (tgt := 44) hx hb dX7_months_37 (by decide) (fun h19 => ?_) (fun h19 => ?_)
        · have hf := zif_t hf h19
          refine lv_iconst (v := 0) hx hb dX7_months_44 (by decide) ?_
          exact J45 _ _ _ _ th 0 hk_th hC (lv_sub hl [0, 1, 2] rfl) hf
        · have hf := zif_f hf h19
          exact J40 _ _ _ _ th hk_th hC (lv_sub hl [0, 1, 2] rfl) hf
def f_X7_wish (K : Nat → Nat) (z : Nat) (r : zS) (th : Nat) (p1 : Int32) (p2 : Int32) (p3 : Int32) : Option (Int32 × zS) :=
  zlet (zui r 0 th 0 0) fun r1 => zb (f_X7_noTrader K z r1 th p1) fun x3 => zb2 (f_X7_throwsIf K z r1 th x3 1) fun x5 r6 => (if x5 = 0 then zn K (zr r6 18 th 0) 118 fun a7 => zx p1 200 <| (if (zi r6 118 a7 (Int32.toNatClampNeg p1)) = 12 then some ((-1), r6) else zn K (zr r6 16 th 0) 116 fun a8 => zx p1 200 <| zx ((12 * p1) + (zi r6 118 a7 (Int32.toNatClampNeg p1))) 2400 <| zlet (zui r6 116 a8 (Int32.toNatClampNeg ((12 * p1) + (zi r6 118 a7 (Int32.toNatClampNeg p1)))) p2) fun r9 => zn K (zr r9 17 th 0) 117 fun a10 => zn K (zr r9 18 th 0) 118 fun a11 => zx p1 200 <| zx ((12 * p1) + (zi r9 118 a11 (Int32.toNatClampNeg p1))) 2400 <| zlet (zui r9 117 a10 (Int32.toNatClampNeg ((12 * p1) + (zi r9 118 a11 (Int32.toNatClampNeg p1)))) p3) fun r12 => zn K (zr r12 18 th 0) 118 fun a13 => zx p1 200 <| zx p1 200 <| zlet (zui r12 118 a13 (Int32.toNatClampNeg p1) ((zi r12 118 a13 (Int32.toNatClampNeg p1)) + 1)) fun r14 => zn K (zr r14 18 th 0) 118 fun a15 => zx p1 200 <| some ((zi r14 118 a15 (Int32.toNatClampNeg p1)), r14)) else some (0, r6))
set_option maxRecDepth 100000 in
set_option maxHeartbeats 4000000 in
theorem c_X7_wish {l : Launch} {D : va_G} {cy : Nat → ClassId} {base : Nat} {st : Nat → Nat} {K : Nat → Nat} {L : List Nat} {c r : zS} {o : Int64} {z : Nat} (th : Nat) (p1 : Int32) (p2 : Int32) (p3 : Int32) {rv : Int32} {rf : zS}  (hk_th : K th = 7) (hf : f_X7_wish K z r th p1 p2 p3 = some (rv, rf)) : Met l yX7_wish wsX7_wish ({ frames := 1, cells := 0, slots := 0, locals := 22 }) (va_Pc [.ref th, .int p1, .int p2, .int p3] (zGW zts0 zns0 D cy base st K L (c, r, o))) (va_Qi (fun (rr : Int32) (_ : Unit) => rr = rv) (fun _ => zB D cy base K L (c, rf, o)) (zA base)) 0 0 (zA base) := by
  refine Met.ofW (cc := cX7_wish) (maxL := 4) (ret := (some .int)) (by decide) rfl ?_
  intro p e s m args below meth cd s₁ B hml hv
  obtain ⟨rfl, hG⟩ := hv
  have hx := B.exec
  have hb := B.bytes
  have hr := B.returns
  have hts := atoms_spec (ws := wsX7_wish) B.pre
  have hown : s.vm.findClass RX7 = some m.cls := findClass_of_methodNamed B.named
  have hlocks := B.notSynchronized
  have hC := hG.enter
  have hK := hG.2.2.2.1
  have hi7 : ∀ w ∈ wsX70, w ∈ wsX7_wish := by decide +kernel
  have w0 := hts (.fieldLink RX7 127 "MarketSquareModel" "thrown" "I") (by decide +kernel)
  have w1 := hts (.fieldLink RX7 60 "MarketSquareModel" "wishMany" "[I") (by decide +kernel)
  have w2 := hts (.fieldLink RX7 54 "MarketSquareModel" "wishRow" "[I") (by decide +kernel)
  have w3 := hts (.fieldLink RX7 57 "MarketSquareModel" "wishPlace" "[I") (by decide +kernel)
  have hl := lv_entry ([.ref th, .int p1, .int p2, .int p3]) (n := 4) (Nat.le_of_ble_eq_true rfl)
  rw [lg_entry_eq]
  generalize (lg_sl ([.ref th, .int p1, .int p2, .int p3]) ++ List.replicate (4 - (lg_sl ([.ref th, .int p1, .int p2, .int p3])).length) Slot.unset).toArray = ls at hl ⊢
  have hl : lv_has ls 4 [(0, .ref th), (1, .int p1), (2, .int p2), (3, .int p3)] := hl
  unfold f_X7_wish at hf
  refine lv_aload_n hx hb dX7_wish_0 rfl (lv_at hl 0 rfl) ?_
  refine lv_iconst (v := 0) hx hb dX7_wish_1 (by decide) ?_
  obtain ⟨r1, er1, hf⟩ := zlet_inv hf
  refine zp_7_0 hx hb hts hi7 hown hK hC hk_th w0 er1 dX7_wish_2 (fun H locs hC => ?_)
  refine lv_aload_n hx hb dX7_wish_5 rfl (lv_at hl 0 rfl) ?_
  refine lv_aload_n hx hb dX7_wish_6 rfl (lv_at hl 0 rfl) ?_
  refine lv_iload_n hx hb dX7_wish_7 rfl (lv_at hl 1 rfl) ?_
  obtain ⟨x3, hc2, hf⟩ := zb_inv hf
  refine z_ci (z_rV (As := [.int p1]) (rest := [.ref th]) ⟨hx, hb, hml, hown, hts⟩ (c_X7_noTrader (l := l) (D := D) (cy := cy) (base := base) (st := st) (K := K) (L := L) (c := c) (r := r1) (o := o) (z := z) th p1 hk_th hc2) (cwV 1 hts gX7_wish_X7_noTrader rfl rfl rfl (by decide +kernel) ⟨Nat.le_of_ble_eq_true rfl, Nat.le_of_ble_eq_true rfl⟩) hG hC (zC.recv (ci := 7) (fs := _) hK hC (by rw [hk_th]; decide) (by rw [hk_th]; exact zc_7 cy _ _) rfl) rfl hl.1 rfl (lv_room (Nat.le_of_ble_eq_true rfl)) dX7_wish_8 ⟨Nat.le_of_ble_eq_true rfl, Nat.le_of_ble_eq_true rfl⟩) hC (fun H locs hC => ?_)
  refine lv_iconst (v := 1) hx hb dX7_wish_11 (by decide) ?_
  obtain ⟨x5, r6, hc4, hf⟩ := zb2_inv hf
  refine z_ci (z_rV (As := [.int x3, .int 1]) (rest := []) ⟨hx, hb, hml, hown, hts⟩ (c_X7_throwsIf (l := l) (D := D) (cy := cy) (base := base) (st := st) (K := K) (L := L) (c := c) (r := r1) (o := o) (z := z) th x3 1 hk_th hc4) (cwV 2 hts gX7_wish_X7_throwsIf rfl rfl rfl (by decide +kernel) ⟨Nat.le_of_ble_eq_true rfl, Nat.le_of_ble_eq_true rfl⟩) hG hC (zC.recv (ci := 7) (fs := _) hK hC (by rw [hk_th]; decide) (by rw [hk_th]; exact zc_7 cy _ _) rfl) rfl hl.1 rfl (lv_room (Nat.le_of_ble_eq_true rfl)) dX7_wish_12 ⟨Nat.le_of_ble_eq_true rfl, Nat.le_of_ble_eq_true rfl⟩) hC (fun H locs hC => ?_)
  refine lv_if_eq (tgt := 20) hx hb dX7_wish_15 (by decide) (fun h17 => ?_) (fun h17 => ?_)
  · have hf := zif_t hf h17
    refine lv_aload_n hx hb dX7_wish_20 rfl (lv_at hl 0 rfl) ?_
    refine zg_7_18 hx hb hts hi7 hown hK hC hk_th w1 dX7_wish_21 ?_
    obtain ⟨a7, ea7, hk_a7, hf⟩ := zn_inv hf
    refine z_ref ea7 ?_
    refine lv_iload_n hx hb dX7_wish_24 rfl (lv_at hl 1 rfl) ?_
    obtain ⟨hix, hf⟩ := zx_inv hf
    refine xg_118 hx hb hK hC hk_a7 hix dX7_wish_25 ?_
    refine lv_bipush (v := 12) hx hb dX7_wish_26 (by decide) ?_
    refine lv_icmp_ne (tgt := 33) hx hb dX7_wish_28 (by decide) (fun h16 => ?_) (fun h16 => ?_)
    · have hf := zif_f hf h16
      refine lv_aload_n hx hb dX7_wish_33 rfl (lv_at hl 0 rfl) ?_
      refine zg_7_16 hx hb hts hi7 hown hK hC hk_th w2 dX7_wish_34 ?_
      obtain ⟨a8, ea8, hk_a8, hf⟩ := zn_inv hf
      refine z_ref ea8 ?_
      refine lv_bipush (v := 12) hx hb dX7_wish_37 (by decide) ?_
      refine lv_iload_n hx hb dX7_wish_39 rfl (lv_at hl 1 rfl) ?_
      refine lv_imul hx hb dX7_wish_40 ?_
      refine lv_aload_n hx hb dX7_wish_41 rfl (lv_at hl 0 rfl) ?_
      refine zg_7_18 hx hb hts hi7 hown hK hC hk_th w1 dX7_wish_42 ?_
      refine z_ref ea7 ?_
      refine lv_iload_n hx hb dX7_wish_45 rfl (lv_at hl 1 rfl) ?_
      obtain ⟨hix, hf⟩ := zx_inv hf
      refine xg_118 hx hb hK hC hk_a7 hix dX7_wish_46 ?_
      refine lv_iadd hx hb dX7_wish_47 ?_
      refine lv_iload_n hx hb dX7_wish_48 rfl (lv_at hl 2 rfl) ?_
      obtain ⟨hix, hf⟩ := zx_inv hf
      obtain ⟨r9, er9, hf⟩ := zlet_inv hf
      refine xp_116 hx hb hK hC hk_a8 hix er9 dX7_wish_49 (fun H locs hC => ?_)
      refine lv_aload_n hx hb dX7_wish_50 rfl (lv_at hl 0 rfl) ?_
      refine zg_7_17 hx hb hts hi7 hown hK hC hk_th w3 dX7_wish_51 ?_
      obtain ⟨a10, ea10, hk_a10, hf⟩ := zn_inv hf
      refine z_ref ea10 ?_
      refine lv_bipush (v := 12) hx hb dX7_wish_54 (by decide) ?_
      refine lv_iload_n hx hb dX7_wish_56 rfl (lv_at hl 1 rfl) ?_
      refine lv_imul hx hb dX7_wish_57 ?_
      refine lv_aload_n hx hb dX7_wish_58 rfl (lv_at hl 0 rfl) ?_
      refine zg_7_18 hx hb hts hi7 hown hK hC hk_th w1 dX7_wish_59 ?_
      obtain ⟨a11, ea11, hk_a11, hf⟩ := zn_inv hf
      refine z_ref ea11 ?_
      refine lv_iload_n hx hb dX7_wish_62 rfl (lv_at hl 1 rfl) ?_
      obtain ⟨hix, hf⟩ := zx_inv hf
      refine xg_118 hx hb hK hC hk_a11 hix dX7_wish_63 ?_
      refine lv_iadd hx hb dX7_wish_64 ?_
      refine lv_iload_n hx hb dX7_wish_65 rfl (lv_at hl 3 rfl) ?_
      obtain ⟨hix, hf⟩ := zx_inv hf
      obtain ⟨r12, er12, hf⟩ := zlet_inv hf
      refine xp_117 hx hb hK hC hk_a10 hix er12 dX7_wish_66 (fun H locs hC => ?_)
      refine lv_aload_n hx hb dX7_wish_67 rfl (lv_at hl 0 rfl) ?_
      refine zg_7_18 hx hb hts hi7 hown hK hC hk_th w1 dX7_wish_68 ?_
      obtain ⟨a13, ea13, hk_a13, hf⟩ := zn_inv hf
      refine z_ref ea13 ?_
      refine lv_iload_n hx hb dX7_wish_71 rfl (lv_at hl 1 rfl) ?_
      refine lv_dup2_11 hx hb dX7_wish_72 rfl rfl ?_
      obtain ⟨hix, hf⟩ := zx_inv hf
      refine xg_118 hx hb hK hC hk_a13 hix dX7_wish_73 ?_
      refine lv_iconst (v := 1) hx hb dX7_wish_74 (by decide) ?_
      refine lv_iadd hx hb dX7_wish_75 ?_
      obtain ⟨hix, hf⟩ := zx_inv hf
      obtain ⟨r14, er14, hf⟩ := zlet_inv hf
      refine xp_118 hx hb hK hC hk_a13 hix er14 dX7_wish_76 (fun H locs hC => ?_)
      refine lv_aload_n hx hb dX7_wish_77 rfl (lv_at hl 0 rfl) ?_
      refine zg_7_18 hx hb hts hi7 hown hK hC hk_th w1 dX7_wish_78 ?_
      obtain ⟨a15, ea15, hk_a15, hf⟩ := zn_inv hf
      refine z_ref ea15 ?_
      refine lv_iload_n hx hb dX7_wish_81 rfl (lv_at hl 1 rfl) ?_
      obtain ⟨hix, hf⟩ := zx_inv hf
      refine xg_118 hx hb hK hC hk_a15 hix dX7_wish_82 ?_
      exact z_iretM hx hb hr hlocks hC hf dX7_wish_83
    · have hf := zif_t hf h16
      refine lv_iconst (v := (-1)) hx hb dX7_wish_31 (by decide) ?_
      exact z_iretM hx hb hr hlocks hC hf dX7_wish_32
  · have hf := zif_f hf h17
    refine lv_iconst (v := 0) hx hb dX7_wish_18 (by decide) ?_
    exact z_iretM hx hb hr hlocks hC hf dX7_wish_19
def f_X7_wishes (K : Nat → Nat) (z : Nat) (r : zS) (th : Nat) (p1 : Int32) (p2 : Int32) : Option zS :=
  zlet (zui r 0 th 0 0) fun r1 => zb (f_X7_noTrader K z r1 th p1) fun x3 => zb2 (f_X7_throwsIf K z r1 th x3 1) fun x5 r6 => (if x5 = 0 then zn K (zr r6 18 th 0) 118 fun a7 => zx p1 200 <| zlet (zui r6 118 a7 (Int32.toNatClampNeg p1) 0) fun r8 => zn K (zr r8 19 th 0) 119 fun a9 => zx p1 200 <| zz p2 <| zlet (zui r8 119 a9 (Int32.toNatClampNeg p1) p2) fun r11 => some r11 else some r6)
set_option maxRecDepth 100000 in
set_option maxHeartbeats 4000000 in
theorem c_X7_wishes {l : Launch} {D : va_G} {cy : Nat → ClassId} {base : Nat} {st : Nat → Nat} {K : Nat → Nat} {L : List Nat} {c r : zS} {o : Int64} {z : Nat} (th : Nat) (p1 : Int32) (p2 : Int32) {rf : zS}  (hk_th : K th = 7) (hf : f_X7_wishes K z r th p1 p2 = some rf) : Met l yX7_wishes wsX7_wishes ({ frames := 1, cells := 0, slots := 0, locals := 22 }) (va_Pc [.ref th, .int p1, .int p2] (zGW zts0 zns0 D cy base st K L (c, r, o))) (va_Qv (fun (_ : Unit) => True) (fun _ => zB D cy base K L (c, rf, o)) (zA base)) 0 0 (zA base) := by
  refine Met.ofW (cc := cX7_wishes) (maxL := 3) (ret := none) (by decide) rfl ?_
  intro p e s m args below meth cd s₁ B hml hv
  obtain ⟨rfl, hG⟩ := hv
  have hx := B.exec
  have hb := B.bytes
  have hr := B.returns
  have hts := atoms_spec (ws := wsX7_wishes) B.pre
  have hown : s.vm.findClass RX7 = some m.cls := findClass_of_methodNamed B.named
  have hlocks := B.notSynchronized
  have hC := hG.enter
  have hK := hG.2.2.2.1
  have hi7 : ∀ w ∈ wsX70, w ∈ wsX7_wishes := by decide +kernel
  have w0 := hts (.fieldLink RX7 127 "MarketSquareModel" "thrown" "I") (by decide +kernel)
  have w1 := hts (.fieldLink RX7 60 "MarketSquareModel" "wishMany" "[I") (by decide +kernel)
  have w2 := hts (.fieldLink RX7 63 "MarketSquareModel" "any" "[Z") (by decide +kernel)
  have hl := lv_entry ([.ref th, .int p1, .int p2]) (n := 3) (Nat.le_of_ble_eq_true rfl)
  rw [lg_entry_eq]
  generalize (lg_sl ([.ref th, .int p1, .int p2]) ++ List.replicate (3 - (lg_sl ([.ref th, .int p1, .int p2])).length) Slot.unset).toArray = ls at hl ⊢
  have hl : lv_has ls 3 [(0, .ref th), (1, .int p1), (2, .int p2)] := hl
  unfold f_X7_wishes at hf
  refine lv_aload_n hx hb dX7_wishes_0 rfl (lv_at hl 0 rfl) ?_
  refine lv_iconst (v := 0) hx hb dX7_wishes_1 (by decide) ?_
  obtain ⟨r1, er1, hf⟩ := zlet_inv hf
  refine zp_7_0 hx hb hts hi7 hown hK hC hk_th w0 er1 dX7_wishes_2 (fun H locs hC => ?_)
  refine lv_aload_n hx hb dX7_wishes_5 rfl (lv_at hl 0 rfl) ?_
  refine lv_aload_n hx hb dX7_wishes_6 rfl (lv_at hl 0 rfl) ?_
  refine lv_iload_n hx hb dX7_wishes_7 rfl (lv_at hl 1 rfl) ?_
  obtain ⟨x3, hc2, hf⟩ := zb_inv hf
  refine z_ci (z_rV (As := [.int p1]) (rest := [.ref th]) ⟨hx, hb, hml, hown, hts⟩ (c_X7_noTrader (l := l) (D := D) (cy := cy) (base := base) (st := st) (K := K) (L := L) (c := c) (r := r1) (o := o) (z := z) th p1 hk_th hc2) (cwV 1 hts gX7_wishes_X7_noTrader rfl rfl rfl (by decide +kernel) ⟨Nat.le_of_ble_eq_true rfl, Nat.le_of_ble_eq_true rfl⟩) hG hC (zC.recv (ci := 7) (fs := _) hK hC (by rw [hk_th]; decide) (by rw [hk_th]; exact zc_7 cy _ _) rfl) rfl hl.1 rfl (lv_room (Nat.le_of_ble_eq_true rfl)) dX7_wishes_8 ⟨Nat.le_of_ble_eq_true rfl, Nat.le_of_ble_eq_true rfl⟩) hC (fun H locs hC => ?_)
  refine lv_iconst (v := 1) hx hb dX7_wishes_11 (by decide) ?_
  obtain ⟨x5, r6, hc4, hf⟩ := zb2_inv hf
  refine z_ci (z_rV (As := [.int x3, .int 1]) (rest := []) ⟨hx, hb, hml, hown, hts⟩ (c_X7_throwsIf (l := l) (D := D) (cy := cy) (base := base) (st := st) (K := K) (L := L) (c := c) (r := r1) (o := o) (z := z) th x3 1 hk_th hc4) (cwV 2 hts gX7_wishes_X7_throwsIf rfl rfl rfl (by decide +kernel) ⟨Nat.le_of_ble_eq_true rfl, Nat.le_of_ble_eq_true rfl⟩) hG hC (zC.recv (ci := 7) (fs := _) hK hC (by rw [hk_th]; decide) (by rw [hk_th]; exact zc_7 cy _ _) rfl) rfl hl.1 rfl (lv_room (Nat.le_of_ble_eq_true rfl)) dX7_wishes_12 ⟨Nat.le_of_ble_eq_true rfl, Nat.le_of_ble_eq_true rfl⟩) hC (fun H locs hC => ?_)
  refine lv_if_eq (tgt := 19) hx hb dX7_wishes_15 (by decide) (fun h12 => ?_) (fun h12 => ?_)
  · have hf := zif_t hf h12
    refine lv_aload_n hx hb dX7_wishes_19 rfl (lv_at hl 0 rfl) ?_
    refine zg_7_18 hx hb hts hi7 hown hK hC hk_th w1 dX7_wishes_20 ?_
    obtain ⟨a7, ea7, hk_a7, hf⟩ := zn_inv hf
    refine z_ref ea7 ?_
    refine lv_iload_n hx hb dX7_wishes_23 rfl (lv_at hl 1 rfl) ?_
    refine lv_iconst (v := 0) hx hb dX7_wishes_24 (by decide) ?_
    obtain ⟨hix, hf⟩ := zx_inv hf
    obtain ⟨r8, er8, hf⟩ := zlet_inv hf
    refine xp_118 hx hb hK hC hk_a7 hix er8 dX7_wishes_25 (fun H locs hC => ?_)
    refine lv_aload_n hx hb dX7_wishes_26 rfl (lv_at hl 0 rfl) ?_
    refine zg_7_19 hx hb hts hi7 hown hK hC hk_th w2 dX7_wishes_27 ?_
    obtain ⟨a9, ea9, hk_a9, hf⟩ := zn_inv hf
    refine z_ref ea9 ?_
    refine lv_iload_n hx hb dX7_wishes_30 rfl (lv_at hl 1 rfl) ?_
    refine lv_iload_n hx hb dX7_wishes_31 rfl (lv_at hl 2 rfl) ?_
    obtain ⟨hix, hf⟩ := zx_inv hf
    obtain ⟨hz10, hf⟩ := zz_inv hf
    obtain ⟨r11, er11, hf⟩ := zlet_inv hf
    refine xp_119 hx hb hK hC hk_a9 hix hz10 er11 dX7_wishes_32 (fun H locs hC => ?_)
    exact z_vretM hx hb hr hlocks hC hf dX7_wishes_33
  · have hf := zif_f hf h12
    exact z_vretM hx hb hr hlocks hC hf dX7_wishes_18
def f_X7_want (K : Nat → Nat) (z : Nat) (r : zS) (th : Nat) (p1 : Int32) (p2 : Int32) : Option zS :=
  zlet (zui r 0 th 0 0) fun r1 => zb (f_X7_noTrader K z r1 th p1) fun x3 => zb2 (f_X7_throwsIf K z r1 th x3 1) fun x5 r6 => (if x5 = 0 then zn K (zr r6 20 th 0) 120 fun a7 => zx p1 200 <| zz p2 <| zlet (zui r6 120 a7 (Int32.toNatClampNeg p1) p2) fun r9 => some r9 else some r6)
set_option maxRecDepth 100000 in
set_option maxHeartbeats 4000000 in
theorem c_X7_want {l : Launch} {D : va_G} {cy : Nat → ClassId} {base : Nat} {st : Nat → Nat} {K : Nat → Nat} {L : List Nat} {c r : zS} {o : Int64} {z : Nat} (th : Nat) (p1 : Int32) (p2 : Int32) {rf : zS}  (hk_th : K th = 7) (hf : f_X7_want K z r th p1 p2 = some rf) : Met l yX7_want wsX7_want ({ frames := 1, cells := 0, slots := 0, locals := 22 }) (va_Pc [.ref th, .int p1, .int p2] (zGW zts0 zns0 D cy base st K L (c, r, o))) (va_Qv (fun (_ : Unit) => True) (fun _ => zB D cy base K L (c, rf, o)) (zA base)) 0 0 (zA base) := by
  refine Met.ofW (cc := cX7_want) (maxL := 3) (ret := none) (by decide) rfl ?_
  intro p e s m args below meth cd s₁ B hml hv
  obtain ⟨rfl, hG⟩ := hv
  have hx := B.exec
  have hb := B.bytes
  have hr := B.returns
  have hts := atoms_spec (ws := wsX7_want) B.pre
  have hown : s.vm.findClass RX7 = some m.cls := findClass_of_methodNamed B.named
  have hlocks := B.notSynchronized
  have hC := hG.enter
  have hK := hG.2.2.2.1
  have hi7 : ∀ w ∈ wsX70, w ∈ wsX7_want := by decide +kernel
  have w0 := hts (.fieldLink RX7 127 "MarketSquareModel" "thrown" "I") (by decide +kernel)
  have w1 := hts (.fieldLink RX7 66 "MarketSquareModel" "wants" "[Z") (by decide +kernel)
  have hl := lv_entry ([.ref th, .int p1, .int p2]) (n := 3) (Nat.le_of_ble_eq_true rfl)
  rw [lg_entry_eq]
  generalize (lg_sl ([.ref th, .int p1, .int p2]) ++ List.replicate (3 - (lg_sl ([.ref th, .int p1, .int p2])).length) Slot.unset).toArray = ls at hl ⊢
  have hl : lv_has ls 3 [(0, .ref th), (1, .int p1), (2, .int p2)] := hl
  unfold f_X7_want at hf
  refine lv_aload_n hx hb dX7_want_0 rfl (lv_at hl 0 rfl) ?_
  refine lv_iconst (v := 0) hx hb dX7_want_1 (by decide) ?_
  obtain ⟨r1, er1, hf⟩ := zlet_inv hf
  refine zp_7_0 hx hb hts hi7 hown hK hC hk_th w0 er1 dX7_want_2 (fun H locs hC => ?_)
  refine lv_aload_n hx hb dX7_want_5 rfl (lv_at hl 0 rfl) ?_
  refine lv_aload_n hx hb dX7_want_6 rfl (lv_at hl 0 rfl) ?_
  refine lv_iload_n hx hb dX7_want_7 rfl (lv_at hl 1 rfl) ?_
  obtain ⟨x3, hc2, hf⟩ := zb_inv hf
  refine z_ci (z_rV (As := [.int p1]) (rest := [.ref th]) ⟨hx, hb, hml, hown, hts⟩ (c_X7_noTrader (l := l) (D := D) (cy := cy) (base := base) (st := st) (K := K) (L := L) (c := c) (r := r1) (o := o) (z := z) th p1 hk_th hc2) (cwV 1 hts gX7_want_X7_noTrader rfl rfl rfl (by decide +kernel) ⟨Nat.le_of_ble_eq_true rfl, Nat.le_of_ble_eq_true rfl⟩) hG hC (zC.recv (ci := 7) (fs := _) hK hC (by rw [hk_th]; decide) (by rw [hk_th]; exact zc_7 cy _ _) rfl) rfl hl.1 rfl (lv_room (Nat.le_of_ble_eq_true rfl)) dX7_want_8 ⟨Nat.le_of_ble_eq_true rfl, Nat.le_of_ble_eq_true rfl⟩) hC (fun H locs hC => ?_)
  refine lv_iconst (v := 1) hx hb dX7_want_11 (by decide) ?_
  obtain ⟨x5, r6, hc4, hf⟩ := zb2_inv hf
  refine z_ci (z_rV (As := [.int x3, .int 1]) (rest := []) ⟨hx, hb, hml, hown, hts⟩ (c_X7_throwsIf (l := l) (D := D) (cy := cy) (base := base) (st := st) (K := K) (L := L) (c := c) (r := r1) (o := o) (z := z) th x3 1 hk_th hc4) (cwV 2 hts gX7_want_X7_throwsIf rfl rfl rfl (by decide +kernel) ⟨Nat.le_of_ble_eq_true rfl, Nat.le_of_ble_eq_true rfl⟩) hG hC (zC.recv (ci := 7) (fs := _) hK hC (by rw [hk_th]; decide) (by rw [hk_th]; exact zc_7 cy _ _) rfl) rfl hl.1 rfl (lv_room (Nat.le_of_ble_eq_true rfl)) dX7_want_12 ⟨Nat.le_of_ble_eq_true rfl, Nat.le_of_ble_eq_true rfl⟩) hC (fun H locs hC => ?_)
  refine lv_if_eq (tgt := 19) hx hb dX7_want_15 (by decide) (fun h10 => ?_) (fun h10 => ?_)
  · have hf := zif_t hf h10
    refine lv_aload_n hx hb dX7_want_19 rfl (lv_at hl 0 rfl) ?_
    refine zg_7_20 hx hb hts hi7 hown hK hC hk_th w1 dX7_want_20 ?_
    obtain ⟨a7, ea7, hk_a7, hf⟩ := zn_inv hf
    refine z_ref ea7 ?_
    refine lv_iload_n hx hb dX7_want_23 rfl (lv_at hl 1 rfl) ?_
    refine lv_iload_n hx hb dX7_want_24 rfl (lv_at hl 2 rfl) ?_
    obtain ⟨hix, hf⟩ := zx_inv hf
    obtain ⟨hz8, hf⟩ := zz_inv hf
    obtain ⟨r9, er9, hf⟩ := zlet_inv hf
    refine xp_120 hx hb hK hC hk_a7 hix hz8 er9 dX7_want_25 (fun H locs hC => ?_)
    exact z_vretM hx hb hr hlocks hC hf dX7_want_26
  · have hf := zif_f hf h10
    exact z_vretM hx hb hr hlocks hC hf dX7_want_18
def f_X7_rests_2 (K : Nat → Nat) (z : Nat) (th : Nat) : Nat → zS → Int32 → Option zS
  | 0, _, _ => none
  | n + 1, rA, v1 =>
    (if 200 ≤ v1 then some rA else zn K (zr rA 21 th 0) 121 fun a1 => zx v1 200 <| zlet (zui rA 121 a1 (Int32.toNatClampNeg v1) 0) fun r2 => zn K (zr r2 22 th 0) 122 fun a3 => zx v1 200 <| zlet (zui r2 122 a3 (Int32.toNatClampNeg v1) 0) fun r4 => zn K (zr r4 23 th 0) 123 fun a5 => zx v1 200 <| zlet (zui r4 123 a5 (Int32.toNatClampNeg v1) 0) fun r6 => zn K (zr r6 24 th 0) 124 fun a7 => zx v1 200 <| zlet (zui r6 124 a7 (Int32.toNatClampNeg v1) 0) fun r8 => zn K (zr r8 25 th 0) 125 fun a9 => zx v1 200 <| zlet (zui r8 125 a9 (Int32.toNatClampNeg v1) 0) fun r10 => zn K (zr r10 26 th 0) 126 fun a11 => zx v1 200 <| zlet (zui r10 126 a11 (Int32.toNatClampNeg v1) 0) fun r12 => zlet (v1 + 1) fun x13 => f_X7_rests_2 K z th n r12 x13)
def f_X7_rests (K : Nat → Nat) (z : Nat) (r : zS) (th : Nat) : Option zS :=
  f_X7_rests_2 K z th z r 0
set_option maxRecDepth 100000 in
set_option maxHeartbeats 4000000 in
theorem c_X7_rests {l : Launch} {D : va_G} {cy : Nat → ClassId} {base : Nat} {st : Nat → Nat} {K : Nat → Nat} {L : List Nat} {c r : zS} {o : Int64} {z : Nat} (th : Nat) {rf : zS}  (hk_th : K th = 7) (hf : f_X7_rests K z r th = some rf) : Met l yX7_rests wsX7_rests ({ frames := 0, cells := 0, slots := 0, locals := 0 }) (va_Pc [.ref th] (zGW zts0 zns0 D cy base st K L (c, r, o))) (va_Qv (fun (_ : Unit) => True) (fun _ => zB D cy base K L (c, rf, o)) (zA base)) 0 0 (zA base) := by
  refine Met.ofW (cc := cX7_rests) (maxL := 2) (ret := none) (by decide) rfl ?_
  intro p e s m args below meth cd s₁ B hml hv
  obtain ⟨rfl, hG⟩ := hv
  have hx := B.exec
  have hb := B.bytes
  have hr := B.returns
  have hts := atoms_spec (ws := wsX7_rests) B.pre
  have hown : s.vm.findClass RX7 = some m.cls := findClass_of_methodNamed B.named
  have hlocks := B.notSynchronized
  have hC := hG.enter
  have hK := hG.2.2.2.1
  have hi7 : ∀ w ∈ wsX70, w ∈ wsX7_rests := by decide +kernel
  have w0 := hts (.fieldLink RX7 69 "MarketSquareModel" "isThere" "[Z") (by decide +kernel)
  have w1 := hts (.fieldLink RX7 72 "MarketSquareModel" "gaveWord" "[Z") (by decide +kernel)
  have w2 := hts (.fieldLink RX7 75 "MarketSquareModel" "slighted" "[Z") (by decide +kernel)
  have w3 := hts (.fieldLink RX7 78 "MarketSquareModel" "passed" "[Z") (by decide +kernel)
  have w4 := hts (.fieldLink RX7 81 "MarketSquareModel" "hasLeft" "[Z") (by decide +kernel)
  have w5 := hts (.fieldLink RX7 84 "MarketSquareModel" "stood" "[Z") (by decide +kernel)
  have hl := lv_entry ([.ref th]) (n := 2) (Nat.le_of_ble_eq_true rfl)
  rw [lg_entry_eq]
  generalize (lg_sl ([.ref th]) ++ List.replicate (2 - (lg_sl ([.ref th])).length) Slot.unset).toArray = ls at hl ⊢
  have hl : lv_has ls 2 [(0, .ref th)] := hl
  have L2 : ∀ (n2 : Nat) (rA : zS) (H : Heap) (locs : List Loc) (ls : Array Slot) (v1 : Int32), zC D cy base K L (c, rA, o) s.heap H locs → lv_has ls 2 [(0, .ref th), (1, .int v1)] → f_X7_rests_2 K z th n2 rA v1 = some rf → W p l e (headSpec wsX7_rests ({ frames := 0, cells := 0, slots := 0, locals := 0 })).room s m ([.ref th] : List Value).toArray below meth cd H locs 0 0 (MQ below (va_Qv (fun (_ : Unit) => True) (fun _ => zB D cy base K L (c, rf, o)) (zA base)) ([.ref th] : List Value).toArray s 0 0 (zA base)) (F0 m 2 ls []) := by
    intro n2
    induction n2 with
    | zero => intro rA H locs ls v1 hC hl hf; rw [f_X7_rests_2] at hf; cases hf
    | succ n2 ih2 =>
      intro rA H locs ls v1 hC hl hf
      rw [f_X7_rests_2] at hf
      refine lv_iload_n hx hb dX7_rests_2 rfl (lv_at hl 1 rfl) ?_
      refine lv_sipush (v := 200) hx hb dX7_rests_3 (by decide) ?_
      refine lv_icmp_ge (tgt := 57) hx hb dX7_rests_6 (by decide) (fun h14 => ?_) (fun h14 => ?_)
      · have hf := zif_t hf h14
        exact z_vretM hx hb hr hlocks hC hf dX7_rests_57
      · have hf := zif_f hf h14
        refine lv_aload_n hx hb dX7_rests_9 rfl (lv_at hl 0 rfl) ?_
        refine zg_7_21 hx hb hts hi7 hown hK hC hk_th w0 dX7_rests_10 ?_
        obtain ⟨a1, ea1, hk_a1, hf⟩ := zn_inv hf
        refine z_ref ea1 ?_
        refine lv_iload_n hx hb dX7_rests_13 rfl (lv_at hl 1 rfl) ?_
        refine lv_iconst (v := 0) hx hb dX7_rests_14 (by decide) ?_
        obtain ⟨hix, hf⟩ := zx_inv hf
        obtain ⟨r2, er2, hf⟩ := zlet_inv hf
        refine xp_121 hx hb hK hC hk_a1 hix (Or.inl rfl) er2 dX7_rests_15 (fun H locs hC => ?_)
        refine lv_aload_n hx hb dX7_rests_16 rfl (lv_at hl 0 rfl) ?_
        refine zg_7_22 hx hb hts hi7 hown hK hC hk_th w1 dX7_rests_17 ?_
        obtain ⟨a3, ea3, hk_a3, hf⟩ := zn_inv hf
        refine z_ref ea3 ?_
        refine lv_iload_n hx hb dX7_rests_20 rfl (lv_at hl 1 rfl) ?_
        refine lv_iconst (v := 0) hx hb dX7_rests_21 (by decide) ?_
        obtain ⟨hix, hf⟩ := zx_inv hf
        obtain ⟨r4, er4, hf⟩ := zlet_inv hf
        refine xp_122 hx hb hK hC hk_a3 hix (Or.inl rfl) er4 dX7_rests_22 (fun H locs hC => ?_)
        refine lv_aload_n hx hb dX7_rests_23 rfl (lv_at hl 0 rfl) ?_
        refine zg_7_23 hx hb hts hi7 hown hK hC hk_th w2 dX7_rests_24 ?_
        obtain ⟨a5, ea5, hk_a5, hf⟩ := zn_inv hf
        refine z_ref ea5 ?_
        refine lv_iload_n hx hb dX7_rests_27 rfl (lv_at hl 1 rfl) ?_
        refine lv_iconst (v := 0) hx hb dX7_rests_28 (by decide) ?_
        obtain ⟨hix, hf⟩ := zx_inv hf
        obtain ⟨r6, er6, hf⟩ := zlet_inv hf
        refine xp_123 hx hb hK hC hk_a5 hix (Or.inl rfl) er6 dX7_rests_29 (fun H locs hC => ?_)
        refine lv_aload_n hx hb dX7_rests_30 rfl (lv_at hl 0 rfl) ?_
        refine zg_7_24 hx hb hts hi7 hown hK hC hk_th w3 dX7_rests_31 ?_
        obtain ⟨a7, ea7, hk_a7, hf⟩ := zn_inv hf
        refine z_ref ea7 ?_
        refine lv_iload_n hx hb dX7_rests_34 rfl (lv_at hl 1 rfl) ?_
        refine lv_iconst (v := 0) hx hb dX7_rests_35 (by decide) ?_
        obtain ⟨hix, hf⟩ := zx_inv hf
        obtain ⟨r8, er8, hf⟩ := zlet_inv hf
        refine xp_124 hx hb hK hC hk_a7 hix (Or.inl rfl) er8 dX7_rests_36 (fun H locs hC => ?_)
        refine lv_aload_n hx hb dX7_rests_37 rfl (lv_at hl 0 rfl) ?_
        refine zg_7_25 hx hb hts hi7 hown hK hC hk_th w4 dX7_rests_38 ?_
        obtain ⟨a9, ea9, hk_a9, hf⟩ := zn_inv hf
        refine z_ref ea9 ?_
        refine lv_iload_n hx hb dX7_rests_41 rfl (lv_at hl 1 rfl) ?_
        refine lv_iconst (v := 0) hx hb dX7_rests_42 (by decide) ?_
        obtain ⟨hix, hf⟩ := zx_inv hf
        obtain ⟨r10, er10, hf⟩ := zlet_inv hf
        refine xp_125 hx hb hK hC hk_a9 hix (Or.inl rfl) er10 dX7_rests_43 (fun H locs hC => ?_)
        refine lv_aload_n hx hb dX7_rests_44 rfl (lv_at hl 0 rfl) ?_
        refine zg_7_26 hx hb hts hi7 hown hK hC hk_th w5 dX7_rests_45 ?_
        obtain ⟨a11, ea11, hk_a11, hf⟩ := zn_inv hf
        refine z_ref ea11 ?_
        refine lv_iload_n hx hb dX7_rests_48 rfl (lv_at hl 1 rfl) ?_
        refine lv_iconst (v := 0) hx hb dX7_rests_49 (by decide) ?_
        obtain ⟨hix, hf⟩ := zx_inv hf
        obtain ⟨r12, er12, hf⟩ := zlet_inv hf
        refine xp_126 hx hb hK hC hk_a11 hix (Or.inl rfl) er12 dX7_rests_50 (fun H locs hC => ?_)
        obtain ⟨x13, ex13, hf⟩ := zlet_inv hf
        refine lv_iinc (v := x13) (lv' := [(1, .int x13), (0, .ref th)]) hx hb dX7_rests_51 hl (k := 1) rfl (by rw [ex13]; rfl) (by decide) rfl (fun ls hl => ?_)
        refine lv_goto (tgt := 2) hx hb dX7_rests_54 (by decide) ?_
        exact ih2 _ _ _ _ x13 hC (lv_sub hl [1, 0] rfl) hf
  unfold f_X7_rests at hf
  refine lv_iconst (v := 0) hx hb dX7_rests_0 (by decide) ?_
  refine lv_istore_n (lv' := [(1, .int 0), (0, .ref th)]) hx hb dX7_rests_1 rfl hl (by decide) rfl (fun ls hl => ?_)
  exact L2 z _ _ _ _ 0 hC (lv_sub hl [1, 0] rfl) hf
def f_X7_day_41 (K : Nat → Nat) (z : Nat) (th : Nat) (p1 : Int32) (rA : zS) (s0 : Nat) (s1 : Int32) : Option (Int32 × zS) :=
  zb2 (f_X7_throwsIf K z rA s0 s1 2) fun x6 r7 => (if x6 = 0 then zlet (zui r7 38 th 0 p1) fun r8 => zlet (zui r8 37 th 0 1) fun r9 => zlet (zui r9 39 th 0 0) fun r10 => zlet (zui r10 40 th 0 ((zi r10 40 th 0) + 1)) fun r11 => zb (f_X7_rests K z r11 th) fun r14 => some (((zi r14 40 th 0) - 1), r14) else some (0, r7))
def f_X7_day_21 (K : Nat → Nat) (z : Nat) (th : Nat) (p1 : Int32) (rA : zS) (s0 : Nat) (s1 : Int32) : Option (Int32 × zS) :=
  zb2 (f_X7_throwsIf K z rA s0 s1 1) fun x3 r4 => (if x3 = 0 then (if (zi r4 37 th 0) = 0 then f_X7_day_41 K z th p1 r4 th 0 else f_X7_day_41 K z th p1 r4 th 1) else some (0, r4))
def f_X7_day_16 (K : Nat → Nat) (z : Nat) (th : Nat) (p1 : Int32) (rA : zS) (s0 : Nat) : Option (Int32 × zS) :=
  f_X7_day_21 K z th p1 rA s0 1
def f_X7_day (K : Nat → Nat) (z : Nat) (r : zS) (th : Nat) (p1 : Int32) : Option (Int32 × zS) :=
  zlet (zui r 0 th 0 0) fun r1 => (if p1 < 0 then f_X7_day_16 K z th p1 r1 th else (if p1 ≤ 11 then f_X7_day_21 K z th p1 r1 th 0 else f_X7_day_16 K z th p1 r1 th))
set_option maxRecDepth 100000 in
set_option maxHeartbeats 4000000 in
theorem c_X7_day {l : Launch} {D : va_G} {cy : Nat → ClassId} {base : Nat} {st : Nat → Nat} {K : Nat → Nat} {L : List Nat} {c r : zS} {o : Int64} {z : Nat} (th : Nat) (p1 : Int32) {rv : Int32} {rf : zS}  (hk_th : K th = 7) (hf : f_X7_day K z r th p1 = some (rv, rf)) : Met l yX7_day wsX7_day ({ frames := 1, cells := 0, slots := 0, locals := 22 }) (va_Pc [.ref th, .int p1] (zGW zts0 zns0 D cy base st K L (c, r, o))) (va_Qi (fun (rr : Int32) (_ : Unit) => rr = rv) (fun _ => zB D cy base K L (c, rf, o)) (zA base)) 0 0 (zA base) := by
  refine Met.ofW (cc := cX7_day) (maxL := 2) (ret := (some .int)) (by decide) rfl ?_
  intro p e s m args below meth cd s₁ B hml hv
  obtain ⟨rfl, hG⟩ := hv
  have hx := B.exec
  have hb := B.bytes
  have hr := B.returns
  have hts := atoms_spec (ws := wsX7_day) B.pre
  have hown : s.vm.findClass RX7 = some m.cls := findClass_of_methodNamed B.named
  have hlocks := B.notSynchronized
  have hC := hG.enter
  have hK := hG.2.2.2.1
  have hi7 : ∀ w ∈ wsX70, w ∈ wsX7_day := by decide +kernel
  have w0 := hts (.fieldLink RX7 127 "MarketSquareModel" "thrown" "I") (by decide +kernel)
  have w1 := hts (.fieldLink RX7 214 "MarketSquareModel" "time" "I") (by decide +kernel)
  have w2 := hts (.fieldLink RX7 172 "MarketSquareModel" "month" "I") (by decide +kernel)
  have w3 := hts (.fieldLink RX7 220 "MarketSquareModel" "hour" "I") (by decide +kernel)
  have w4 := hts (.fieldLink RX7 240 "MarketSquareModel" "begun" "I") (by decide +kernel)
  have hl := lv_entry ([.ref th, .int p1]) (n := 2) (Nat.le_of_ble_eq_true rfl)
  rw [lg_entry_eq]
  generalize (lg_sl ([.ref th, .int p1]) ++ List.replicate (2 - (lg_sl ([.ref th, .int p1])).length) Slot.unset).toArray = ls at hl ⊢
  have hl : lv_has ls 2 [(0, .ref th), (1, .int p1)] := hl
  have J41 : ∀ (rA : zS) (H : Heap) (locs : List Loc) (ls : Array Slot) (s0 : Nat) (s1 : Int32), K s0 = 7 → zC D cy base K L (c, rA, o) s.heap H locs → lv_has ls 2 [(0, .ref th), (1, .int p1)] → f_X7_day_41 K z th p1 rA s0 s1 = some (rv, rf) → W p l e (headSpec wsX7_day ({ frames := 1, cells := 0, slots := 0, locals := 22 })).room s m ([.ref th, .int p1] : List Value).toArray below meth cd H locs 0 0 (MQ below (va_Qi (fun (rr : Int32) (_ : Unit) => rr = rv) (fun _ => zB D cy base K L (c, rf, o)) (zA base)) ([.ref th, .int p1] : List Value).toArray s 0 0 (zA base)) (F0 m 41 ls [.int s1, .ref s0]) := by
    intro rA H locs ls s0 s1 hk_s0 hC hl hf
    unfold f_X7_day_41 at hf
    refine lv_iconst (v := 2) hx hb dX7_day_41 (by decide) ?_
    obtain ⟨x6, r7, hc5, hf⟩ := zb2_inv hf
    refine z_ci (z_rV (As := [.int s1, .int 2]) (rest := []) ⟨hx, hb, hml, hown, hts⟩ (c_X7_throwsIf (l := l) (D := D) (cy := cy) (base := base) (st := st) (K := K) (L := L) (c := c) (r := rA) (o := o) (z := z) s0 s1 2 hk_s0 hc5) (cwV 2 hts gX7_day_X7_throwsIf rfl rfl rfl (by decide +kernel) ⟨Nat.le_of_ble_eq_true rfl, Nat.le_of_ble_eq_true rfl⟩) hG hC (zC.recv (ci := 7) (fs := _) hK hC (by rw [hk_s0]; decide) (by rw [hk_s0]; exact zc_7 cy _ _) rfl) rfl hl.1 rfl (lv_room (Nat.le_of_ble_eq_true rfl)) dX7_day_42 ⟨Nat.le_of_ble_eq_true rfl, Nat.le_of_ble_eq_true rfl⟩) hC (fun H locs hC => ?_)
    refine lv_if_eq (tgt := 50) hx hb dX7_day_45 (by decide) (fun h15 => ?_) (fun h15 => ?_)
    · have hf := zif_t hf h15
      refine lv_aload_n hx hb dX7_day_50 rfl (lv_at hl 0 rfl) ?_
      refine lv_iload_n hx hb dX7_day_51 rfl (lv_at hl 1 rfl) ?_
      obtain ⟨r8, er8, hf⟩ := zlet_inv hf
      refine zp_7_38 hx hb hts hi7 hown hK hC hk_th w2 er8 dX7_day_52 (fun H locs hC => ?_)
      refine lv_aload_n hx hb dX7_day_55 rfl (lv_at hl 0 rfl) ?_
      refine lv_iconst (v := 1) hx hb dX7_day_56 (by decide) ?_
      obtain ⟨r9, er9, hf⟩ := zlet_inv hf
      refine zp_7_37 hx hb hts hi7 hown hK hC hk_th w1 er9 dX7_day_57 (fun H locs hC => ?_)
      refine lv_aload_n hx hb dX7_day_60 rfl (lv_at hl 0 rfl) ?_
      refine lv_iconst (v := 0) hx hb dX7_day_61 (by decide) ?_
      obtain ⟨r10, er10, hf⟩ := zlet_inv hf
      refine zp_7_39 hx hb hts hi7 hown hK hC hk_th w3 er10 dX7_day_62 (fun H locs hC => ?_)
      refine lv_aload_n hx hb dX7_day_65 rfl (lv_at hl 0 rfl) ?_
      refine lv_dup hx hb dX7_day_66 rfl ?_
      refine zg_7_40 hx hb hts hi7 hown hK hC hk_th w4 dX7_day_67 ?_
      refine lv_iconst (v := 1) hx hb dX7_day_70 (by decide) ?_
      refine lv_iadd hx hb dX7_day_71 ?_
      obtain ⟨r11, er11, hf⟩ := zlet_inv hf
      refine zp_7_40 hx hb hts hi7 hown hK hC hk_th w4 er11 dX7_day_72 (fun H locs hC => ?_)
      refine lv_aload_n hx hb dX7_day_75 rfl (lv_at hl 0 rfl) ?_
      obtain ⟨r14, hc12, hf⟩ := zb_inv hf
      refine z_cv (z_rV (As := []) (rest := []) ⟨hx, hb, hml, hown, hts⟩ (c_X7_rests (l := l) (D := D) (cy := cy) (base := base) (st := st) (K := K) (L := L) (c := c) (r := r11) (o := o) (z := z) th hk_th hc12) (cwV 0 hts gX7_day_X7_rests rfl rfl rfl (by decide +kernel) ⟨Nat.le_of_ble_eq_true rfl, Nat.le_of_ble_eq_true rfl⟩) hG hC (zC.recv (ci := 7) (fs := _) hK hC (by rw [hk_th]; decide) (by rw [hk_th]; exact zc_7 cy _ _) rfl) rfl hl.1 rfl (lv_room (Nat.le_of_ble_eq_true rfl)) dX7_day_76 ⟨Nat.le_of_ble_eq_true rfl, Nat.le_of_ble_eq_true rfl⟩) hC (fun H locs hC => ?_)
      refine lv_aload_n hx hb dX7_day_79 rfl (lv_at hl 0 rfl) ?_
      refine zg_7_40 hx hb hts hi7 hown hK hC hk_th w4 dX7_day_80 ?_
      refine lv_iconst (v := 1) hx hb dX7_day_83 (by decide) ?_
      refine lv_isub hx hb dX7_day_84 ?_
      exact z_iretM hx hb hr hlocks hC hf dX7_day_85
    · have hf := zif_f hf h15
      refine lv_iconst (v := 0) hx hb dX7_day_48 (by decide) ?_
      exact z_iretM hx hb hr hlocks hC hf dX7_day_49
  have J21 : ∀ (rA : zS) (H : Heap) (locs : List Loc) (ls : Array Slot) (s0 : Nat) (s1 : Int32), K s0 = 7 → zC D cy base K L (c, rA, o) s.heap H locs → lv_has ls 2 [(0, .ref th), (1, .int p1)] → f_X7_day_21 K z th p1 rA s0 s1 = some (rv, rf) → W p l e (headSpec wsX7_day ({ frames := 1, cells := 0, slots := 0, locals := 22 })).room s m ([.ref th, .int p1] : List Value).toArray below meth cd H locs 0 0 (MQ below (va_Qi (fun (rr : Int32) (_ : Unit) => rr = rv) (fun _ => zB D cy base K L (c, rf, o)) (zA base)) ([.ref th, .int p1] : List Value).toArray s 0 0 (zA base)) (F0 m 21 ls [.int s1, .ref s0]) := by
    intro rA H locs ls s0 s1 hk_s0 hC hl hf
    unfold f_X7_day_21 at hf
    refine lv_iconst (v := 1) hx hb dX7_day_21 (by decide) ?_
    obtain ⟨x3, r4, hc2, hf⟩ := zb2_inv hf
    refine z_ci (z_rV (As := [.int s1, .int 1]) (rest := []) ⟨hx, hb, hml, hown, hts⟩ (c_X7_throwsIf (l := l) (D := D) (cy := cy) (base := base) (st := st) (K := K) (L := L) (c := c) (r := rA) (o := o) (z := z) s0 s1 1 hk_s0 hc2) (cwV 2 hts gX7_day_X7_throwsIf rfl rfl rfl (by decide +kernel) ⟨Nat.le_of_ble_eq_true rfl, Nat.le_of_ble_eq_true rfl⟩) hG hC (zC.recv (ci := 7) (fs := _) hK hC (by rw [hk_s0]; decide) (by rw [hk_s0]; exact zc_7 cy _ _) rfl) rfl hl.1 rfl (lv_room (Nat.le_of_ble_eq_true rfl)) dX7_day_22 ⟨Nat.le_of_ble_eq_true rfl, Nat.le_of_ble_eq_true rfl⟩) hC (fun H locs hC => ?_)
    refine lv_if_ne (tgt := 48) hx hb dX7_day_25 (by decide) (fun h17 => ?_) (fun h17 => ?_)
    · have hf := zif_f hf h17
      refine lv_iconst (v := 0) hx hb dX7_day_48 (by decide) ?_
      exact z_iretM hx hb hr hlocks hC hf dX7_day_49
    · have hf := zif_t hf h17
      refine lv_aload_n hx hb dX7_day_28 rfl (lv_at hl 0 rfl) ?_
      refine lv_aload_n hx hb dX7_day_29 rfl (lv_at hl 0 rfl) ?_
      refine zg_7_37 hx hb hts hi7 hown hK hC hk_th w1 dX7_day_30 ?_
      refine lv_if_eq (tgt := 40) hx hb dX7_day_33 (by decide) (fun h16 => ?_) (fun h16 => ?_)
      · have hf := zif_t hf h16
        refine lv_iconst (v := 0) hx hb dX7_day_40 (by decide) ?_
        exact J41 _ _ _ _ th 0 hk_th hC (lv_sub hl [0, 1] rfl) hf
      · have hf := zif_f hf h16
        refine lv_iconst (v := 1) hx hb dX7_day_36 (by decide) ?_
        refine lv_goto (tgt := 41) hx hb dX7_day_37 (by decide) ?_
        exact J41 _ _ _ _ th 1 hk_th hC (lv_sub hl [0, 1] rfl) hf
  have J16 : ∀ (rA : zS) (H : Heap) (locs : List Loc) (ls : Array Slot) (s0 : Nat), K s0 = 7 → zC D cy base K L (c, rA, o) s.heap H locs → lv_has ls 2 [(0, .ref th), (1, .int p1)] → f_X7_day_16 K z th p1 rA s0 = some (rv, rf) → W p l e (headSpec wsX7_day ({ frames := 1, cells := 0, slots := 0, locals := 22 })).room s m ([.ref th, .int p1] : List Value).toArray below meth cd H locs 0 0 (MQ below (va_Qi (fun (rr : Int32) (_ : Unit) => rr = rv) (fun _ => zB D cy base K L (c, rf, o)) (zA base)) ([.ref th, .int p1] : List Value).toArray s 0 0 (zA base)) (F0 m 16 ls [.ref s0]) := by
    intro rA H locs ls s0 hk_s0 hC hl hf
    unfold f_X7_day_16 at hf
    refine lv_iconst (v := 1) hx hb dX7_day_16 (by decide) ?_
    refine lv_goto (tgt := 21) hx hb dX7_day_17 (by decide) ?_
    exact J21 _ _ _ _ s0 1 hk_s0 hC (lv_sub hl [0, 1] rfl) hf
  unfold f_X7_day at hf
  refine lv_aload_n hx hb dX7_day_0 rfl (lv_at hl 0 rfl) ?_
  refine lv_iconst (v := 0) hx hb dX7_day_1 (by decide) ?_
  obtain ⟨r1, er1, hf⟩ := zlet_inv hf
  refine zp_7_0 hx hb hts hi7 hown hK hC hk_th w0 er1 dX7_day_2 (fun H locs hC => ?_)
  refine lv_aload_n hx hb dX7_day_5 rfl (lv_at hl 0 rfl) ?_
  refine lv_iload_n hx hb dX7_day_6 rfl (lv_at hl 1 rfl) ?_
  refine lv_if_lt (tgt := 16) hx hb dX7_day_7 (by decide) (fun h19 => ?_) (fun h19 => ?_)
  · have hf := zif_t hf h19
    exact J16 _ _ _ _ th hk_th hC (lv_sub hl [0, 1] rfl) hf
  · have hf := zif_f hf h19
    refine lv_iload_n hx hb dX7_day_10 rfl (lv_at hl 1 rfl) ?_
    refine lv_bipush (v := 11) hx hb dX7_day_11 (by decide) ?_
    refine lv_icmp_le (tgt := 20) hx hb dX7_day_13 (by decide) (fun h18 => ?_) (fun h18 => ?_)
    · have hf := zif_t hf h18
      refine lv_iconst (v := 0) hx hb dX7_day_20 (by decide) ?_
      exact J21 _ _ _ _ th 0 hk_th hC (lv_sub hl [0, 1] rfl) hf
    · have hf := zif_f hf h18
      exact J16 _ _ _ _ th hk_th hC (lv_sub hl [0, 1] rfl) hf
def f_X7_there_31 (K : Nat → Nat) (z : Nat) (th : Nat) (p1 : Int32) (rA : zS) (s0 : Nat) (s1 : Int32) : Option (Int32 × zS) :=
  zb2 (f_X7_throwsIf K z rA s0 s1 2) fun x8 r9 => (if x8 = 0 then zn K (zr r9 21 th 0) 121 fun a10 => zx p1 200 <| zlet (zi r9 121 a10 (Int32.toNatClampNeg p1)) fun x11 => zx p1 200 <| zlet (zui r9 121 a10 (Int32.toNatClampNeg p1) 1) fun r12 => (if x11 = 0 then some (1, r12) else some (0, r12)) else some (0, r9))
def f_X7_there (K : Nat → Nat) (z : Nat) (r : zS) (th : Nat) (p1 : Int32) : Option (Int32 × zS) :=
  zlet (zui r 0 th 0 0) fun r1 => zb (f_X7_noTrader K z r1 th p1) fun x3 => zb2 (f_X7_throwsIf K z r1 th x3 1) fun x5 r6 => (if x5 = 0 then (if (zi r6 37 th 0) = 0 then f_X7_there_31 K z th p1 r6 th 1 else f_X7_there_31 K z th p1 r6 th 0) else some (0, r6))
set_option maxRecDepth 100000 in
set_option maxHeartbeats 4000000 in
theorem c_X7_there {l : Launch} {D : va_G} {cy : Nat → ClassId} {base : Nat} {st : Nat → Nat} {K : Nat → Nat} {L : List Nat} {c r : zS} {o : Int64} {z : Nat} (th : Nat) (p1 : Int32) {rv : Int32} {rf : zS}  (hk_th : K th = 7) (hf : f_X7_there K z r th p1 = some (rv, rf)) : Met l yX7_there wsX7_there ({ frames := 1, cells := 0, slots := 0, locals := 22 }) (va_Pc [.ref th, .int p1] (zGW zts0 zns0 D cy base st K L (c, r, o))) (va_Qi (fun (rr : Int32) (_ : Unit) => rr = rv) (fun _ => zB D cy base K L (c, rf, o)) (zA base)) 0 0 (zA base) := by
  refine Met.ofW (cc := cX7_there) (maxL := 3) (ret := (some .boolean)) (by decide) rfl ?_
  intro p e s m args below meth cd s₁ B hml hv
  obtain ⟨rfl, hG⟩ := hv
  have hx := B.exec
  have hb := B.bytes
  have hr := B.returns
  have hts := atoms_spec (ws := wsX7_there) B.pre
  have hown : s.vm.findClass RX7 = some m.cls := findClass_of_methodNamed B.named
  have hlocks := B.notSynchronized
  have hC := hG.enter
  have hK := hG.2.2.2.1
  have hi7 : ∀ w ∈ wsX70, w ∈ wsX7_there := by decide +kernel
  have w0 := hts (.fieldLink RX7 127 "MarketSquareModel" "thrown" "I") (by decide +kernel)
  have w1 := hts (.fieldLink RX7 214 "MarketSquareModel" "time" "I") (by decide +kernel)
  have w2 := hts (.fieldLink RX7 69 "MarketSquareModel" "isThere" "[Z") (by decide +kernel)
  have hl := lv_entry ([.ref th, .int p1]) (n := 3) (Nat.le_of_ble_eq_true rfl)
  rw [lg_entry_eq]
  generalize (lg_sl ([.ref th, .int p1]) ++ List.replicate (3 - (lg_sl ([.ref th, .int p1])).length) Slot.unset).toArray = ls at hl ⊢
  have hl : lv_has ls 3 [(0, .ref th), (1, .int p1)] := hl
  have J31 : ∀ (rA : zS) (H : Heap) (locs : List Loc) (ls : Array Slot) (s0 : Nat) (s1 : Int32), K s0 = 7 → zC D cy base K L (c, rA, o) s.heap H locs → lv_has ls 3 [(0, .ref th), (1, .int p1)] → f_X7_there_31 K z th p1 rA s0 s1 = some (rv, rf) → W p l e (headSpec wsX7_there ({ frames := 1, cells := 0, slots := 0, locals := 22 })).room s m ([.ref th, .int p1] : List Value).toArray below meth cd H locs 0 0 (MQ below (va_Qi (fun (rr : Int32) (_ : Unit) => rr = rv) (fun _ => zB D cy base K L (c, rf, o)) (zA base)) ([.ref th, .int p1] : List Value).toArray s 0 0 (zA base)) (F0 m 31 ls [.int s1, .ref s0]) := by
    intro rA H locs ls s0 s1 hk_s0 hC hl hf
    unfold f_X7_there_31 at hf
    refine lv_iconst (v := 2) hx hb dX7_there_31 (by decide) ?_
    obtain ⟨x8, r9, hc7, hf⟩ := zb2_inv hf
    refine z_ci (z_rV (As := [.int s1, .int 2]) (rest := []) ⟨hx, hb, hml, hown, hts⟩ (c_X7_throwsIf (l := l) (D := D) (cy := cy) (base := base) (st := st) (K := K) (L := L) (c := c) (r := rA) (o := o) (z := z) s0 s1 2 hk_s0 hc7) (cwV 2 hts gX7_there_X7_throwsIf rfl rfl rfl (by decide +kernel) ⟨Nat.le_of_ble_eq_true rfl, Nat.le_of_ble_eq_true rfl⟩) hG hC (zC.recv (ci := 7) (fs := _) hK hC (by rw [hk_s0]; decide) (by rw [hk_s0]; exact zc_7 cy _ _) rfl) rfl hl.1 rfl (lv_room (Nat.le_of_ble_eq_true rfl)) dX7_there_32 ⟨Nat.le_of_ble_eq_true rfl, Nat.le_of_ble_eq_true rfl⟩) hC (fun H locs hC => ?_)
    refine lv_if_eq (tgt := 40) hx hb dX7_there_35 (by decide) (fun h14 => ?_) (fun h14 => ?_)
    · have hf := zif_t hf h14
      refine lv_aload_n hx hb dX7_there_40 rfl (lv_at hl 0 rfl) ?_
      refine zg_7_21 hx hb hts hi7 hown hK hC hk_th w2 dX7_there_41 ?_
      obtain ⟨a10, ea10, hk_a10, hf⟩ := zn_inv hf
      refine z_ref ea10 ?_
      refine lv_iload_n hx hb dX7_there_44 rfl (lv_at hl 1 rfl) ?_
      obtain ⟨hix, hf⟩ := zx_inv hf
      refine xg_121 hx hb hK hC hk_a10 hix dX7_there_45 ?_
      obtain ⟨x11, ex11, hf⟩ := zlet_inv hf
      refine z_name ex11 ?_
      refine lv_istore_n (lv' := [(2, .int x11), (0, .ref th), (1, .int p1)]) hx hb dX7_there_46 rfl hl (by decide) rfl (fun ls hl => ?_)
      refine lv_aload_n hx hb dX7_there_47 rfl (lv_at hl 1 rfl) ?_
      refine zg_7_21 hx hb hts hi7 hown hK hC hk_th w2 dX7_there_48 ?_
      refine z_ref ea10 ?_
      refine lv_iload_n hx hb dX7_there_51 rfl (lv_at hl 2 rfl) ?_
      refine lv_iconst (v := 1) hx hb dX7_there_52 (by decide) ?_
      obtain ⟨hix, hf⟩ := zx_inv hf
      obtain ⟨r12, er12, hf⟩ := zlet_inv hf
      refine xp_121 hx hb hK hC hk_a10 hix (Or.inr rfl) er12 dX7_there_53 (fun H locs hC => ?_)
      refine lv_iload_n hx hb dX7_there_54 rfl (lv_at hl 0 rfl) ?_
      refine lv_if_ne (tgt := 62) hx hb dX7_there_55 (by decide) (fun h13 => ?_) (fun h13 => ?_)
      · have hf := zif_f hf h13
        refine lv_iconst (v := 0) hx hb dX7_there_62 (by decide) ?_
        exact z_zretM hx hb hr hlocks hC (Or.inl rfl) hf dX7_there_63
      · have hf := zif_t hf h13
        refine lv_iconst (v := 1) hx hb dX7_there_58 (by decide) ?_
        refine lv_goto (tgt := 63) hx hb dX7_there_59 (by decide) ?_
        exact z_zretM hx hb hr hlocks hC (Or.inr rfl) hf dX7_there_63
    · have hf := zif_f hf h14
      refine lv_iconst (v := 0) hx hb dX7_there_38 (by decide) ?_
      exact z_zretM hx hb hr hlocks hC (Or.inl rfl) hf dX7_there_39
  unfold f_X7_there at hf
  refine lv_aload_n hx hb dX7_there_0 rfl (lv_at hl 0 rfl) ?_
  refine lv_iconst (v := 0) hx hb dX7_there_1 (by decide) ?_
  obtain ⟨r1, er1, hf⟩ := zlet_inv hf
  refine zp_7_0 hx hb hts hi7 hown hK hC hk_th w0 er1 dX7_there_2 (fun H locs hC => ?_)
  refine lv_aload_n hx hb dX7_there_5 rfl (lv_at hl 0 rfl) ?_
  refine lv_aload_n hx hb dX7_there_6 rfl (lv_at hl 0 rfl) ?_
  refine lv_iload_n hx hb dX7_there_7 rfl (lv_at hl 1 rfl) ?_
  obtain ⟨x3, hc2, hf⟩ := zb_inv hf
  refine z_ci (z_rV (As := [.int p1]) (rest := [.ref th]) ⟨hx, hb, hml, hown, hts⟩ (c_X7_noTrader (l := l) (D := D) (cy := cy) (base := base) (st := st) (K := K) (L := L) (c := c) (r := r1) (o := o) (z := z) th p1 hk_th hc2) (cwV 1 hts gX7_there_X7_noTrader rfl rfl rfl (by decide +kernel) ⟨Nat.le_of_ble_eq_true rfl, Nat.le_of_ble_eq_true rfl⟩) hG hC (zC.recv (ci := 7) (fs := _) hK hC (by rw [hk_th]; decide) (by rw [hk_th]; exact zc_7 cy _ _) rfl) rfl hl.1 rfl (lv_room (Nat.le_of_ble_eq_true rfl)) dX7_there_8 ⟨Nat.le_of_ble_eq_true rfl, Nat.le_of_ble_eq_true rfl⟩) hC (fun H locs hC => ?_)
  refine lv_iconst (v := 1) hx hb dX7_there_11 (by decide) ?_
  obtain ⟨x5, r6, hc4, hf⟩ := zb2_inv hf
  refine z_ci (z_rV (As := [.int x3, .int 1]) (rest := []) ⟨hx, hb, hml, hown, hts⟩ (c_X7_throwsIf (l := l) (D := D) (cy := cy) (base := base) (st := st) (K := K) (L := L) (c := c) (r := r1) (o := o) (z := z) th x3 1 hk_th hc4) (cwV 2 hts gX7_there_X7_throwsIf rfl rfl rfl (by decide +kernel) ⟨Nat.le_of_ble_eq_true rfl, Nat.le_of_ble_eq_true rfl⟩) hG hC (zC.recv (ci := 7) (fs := _) hK hC (by rw [hk_th]; decide) (by rw [hk_th]; exact zc_7 cy _ _) rfl) rfl hl.1 rfl (lv_room (Nat.le_of_ble_eq_true rfl)) dX7_there_12 ⟨Nat.le_of_ble_eq_true rfl, Nat.le_of_ble_eq_true rfl⟩) hC (fun H locs hC => ?_)
  refine lv_if_ne (tgt := 38) hx hb dX7_there_15 (by decide) (fun h16 => ?_) (fun h16 => ?_)
  · have hf := zif_f hf h16
    refine lv_iconst (v := 0) hx hb dX7_there_38 (by decide) ?_
    exact z_zretM hx hb hr hlocks hC (Or.inl rfl) hf dX7_there_39
  · have hf := zif_t hf h16
    refine lv_aload_n hx hb dX7_there_18 rfl (lv_at hl 0 rfl) ?_
    refine lv_aload_n hx hb dX7_there_19 rfl (lv_at hl 0 rfl) ?_
    refine zg_7_37 hx hb hts hi7 hown hK hC hk_th w1 dX7_there_20 ?_
    refine lv_if_ne (tgt := 30) hx hb dX7_there_23 (by decide) (fun h15 => ?_) (fun h15 => ?_)
    · have hf := zif_f hf h15
      refine lv_iconst (v := 0) hx hb dX7_there_30 (by decide) ?_
      exact J31 _ _ _ _ th 0 hk_th hC (lv_sub hl [0, 1] rfl) hf
    · have hf := zif_t hf h15
      refine lv_iconst (v := 1) hx hb dX7_there_26 (by decide) ?_
      refine lv_goto (tgt := 31) hx hb dX7_there_27 (by decide) ?_
      exact J31 _ _ _ _ th 1 hk_th hC (lv_sub hl [0, 1] rfl) hf
def f_X7_word_32 (K : Nat → Nat) (z : Nat) (th : Nat) (p1 : Int32) (rA : zS) (s0 : Nat) (s1 : Int32) : Option (Int32 × zS) :=
  zb2 (f_X7_throwsIf K z rA s0 s1 2) fun x8 r9 => (if x8 = 0 then zn K (zr r9 22 th 0) 122 fun a10 => zx p1 200 <| (if (zi r9 122 a10 (Int32.toNatClampNeg p1)) = 0 then zn K (zr r9 21 th 0) 121 fun a11 => zx p1 200 <| (if (zi r9 121 a11 (Int32.toNatClampNeg p1)) = 0 then zx p1 200 <| zlet (zui r9 122 a10 (Int32.toNatClampNeg p1) 1) fun r12 => some (1, r12) else some (0, r9)) else some (0, r9)) else some (0, r9))
def f_X7_word (K : Nat → Nat) (z : Nat) (r : zS) (th : Nat) (p1 : Int32) : Option (Int32 × zS) :=
  zlet (zui r 0 th 0 0) fun r1 => zb (f_X7_noTrader K z r1 th p1) fun x3 => zb2 (f_X7_throwsIf K z r1 th x3 1) fun x5 r6 => (if x5 = 0 then (if (zi r6 37 th 0) = 1 then f_X7_word_32 K z th p1 r6 th 0 else f_X7_word_32 K z th p1 r6 th 1) else some (0, r6))
set_option maxRecDepth 100000 in
set_option maxHeartbeats 4000000 in
theorem c_X7_word {l : Launch} {D : va_G} {cy : Nat → ClassId} {base : Nat} {st : Nat → Nat} {K : Nat → Nat} {L : List Nat} {c r : zS} {o : Int64} {z : Nat} (th : Nat) (p1 : Int32) {rv : Int32} {rf : zS}  (hk_th : K th = 7) (hf : f_X7_word K z r th p1 = some (rv, rf)) : Met l yX7_word wsX7_word ({ frames := 1, cells := 0, slots := 0, locals := 22 }) (va_Pc [.ref th, .int p1] (zGW zts0 zns0 D cy base st K L (c, r, o))) (va_Qi (fun (rr : Int32) (_ : Unit) => rr = rv) (fun _ => zB D cy base K L (c, rf, o)) (zA base)) 0 0 (zA base) := by
  refine Met.ofW (cc := cX7_word) (maxL := 2) (ret := (some .boolean)) (by decide) rfl ?_
  intro p e s m args below meth cd s₁ B hml hv
  obtain ⟨rfl, hG⟩ := hv
  have hx := B.exec
  have hb := B.bytes
  have hr := B.returns
  have hts := atoms_spec (ws := wsX7_word) B.pre
  have hown : s.vm.findClass RX7 = some m.cls := findClass_of_methodNamed B.named
  have hlocks := B.notSynchronized
  have hC := hG.enter
  have hK := hG.2.2.2.1
  have hi7 : ∀ w ∈ wsX70, w ∈ wsX7_word := by decide +kernel
  have w0 := hts (.fieldLink RX7 127 "MarketSquareModel" "thrown" "I") (by decide +kernel)
  have w1 := hts (.fieldLink RX7 214 "MarketSquareModel" "time" "I") (by decide +kernel)
  have w2 := hts (.fieldLink RX7 72 "MarketSquareModel" "gaveWord" "[Z") (by decide +kernel)
  have w3 := hts (.fieldLink RX7 69 "MarketSquareModel" "isThere" "[Z") (by decide +kernel)
  have hl := lv_entry ([.ref th, .int p1]) (n := 2) (Nat.le_of_ble_eq_true rfl)
  rw [lg_entry_eq]
  generalize (lg_sl ([.ref th, .int p1]) ++ List.replicate (2 - (lg_sl ([.ref th, .int p1])).length) Slot.unset).toArray = ls at hl ⊢
  have hl : lv_has ls 2 [(0, .ref th), (1, .int p1)] := hl
  have J32 : ∀ (rA : zS) (H : Heap) (locs : List Loc) (ls : Array Slot) (s0 : Nat) (s1 : Int32), K s0 = 7 → zC D cy base K L (c, rA, o) s.heap H locs → lv_has ls 2 [(0, .ref th), (1, .int p1)] → f_X7_word_32 K z th p1 rA s0 s1 = some (rv, rf) → W p l e (headSpec wsX7_word ({ frames := 1, cells := 0, slots := 0, locals := 22 })).room s m ([.ref th, .int p1] : List Value).toArray below meth cd H locs 0 0 (MQ below (va_Qi (fun (rr : Int32) (_ : Unit) => rr = rv) (fun _ => zB D cy base K L (c, rf, o)) (zA base)) ([.ref th, .int p1] : List Value).toArray s 0 0 (zA base)) (F0 m 32 ls [.int s1, .ref s0]) := by
    intro rA H locs ls s0 s1 hk_s0 hC hl hf
    unfold f_X7_word_32 at hf
    refine lv_iconst (v := 2) hx hb dX7_word_32 (by decide) ?_
    obtain ⟨x8, r9, hc7, hf⟩ := zb2_inv hf
    refine z_ci (z_rV (As := [.int s1, .int 2]) (rest := []) ⟨hx, hb, hml, hown, hts⟩ (c_X7_throwsIf (l := l) (D := D) (cy := cy) (base := base) (st := st) (K := K) (L := L) (c := c) (r := rA) (o := o) (z := z) s0 s1 2 hk_s0 hc7) (cwV 2 hts gX7_word_X7_throwsIf rfl rfl rfl (by decide +kernel) ⟨Nat.le_of_ble_eq_true rfl, Nat.le_of_ble_eq_true rfl⟩) hG hC (zC.recv (ci := 7) (fs := _) hK hC (by rw [hk_s0]; decide) (by rw [hk_s0]; exact zc_7 cy _ _) rfl) rfl hl.1 rfl (lv_room (Nat.le_of_ble_eq_true rfl)) dX7_word_33 ⟨Nat.le_of_ble_eq_true rfl, Nat.le_of_ble_eq_true rfl⟩) hC (fun H locs hC => ?_)
    refine lv_if_eq (tgt := 41) hx hb dX7_word_36 (by decide) (fun h15 => ?_) (fun h15 => ?_)
    · have hf := zif_t hf h15
      refine lv_aload_n hx hb dX7_word_41 rfl (lv_at hl 0 rfl) ?_
      refine zg_7_22 hx hb hts hi7 hown hK hC hk_th w2 dX7_word_42 ?_
      obtain ⟨a10, ea10, hk_a10, hf⟩ := zn_inv hf
      refine z_ref ea10 ?_
      refine lv_iload_n hx hb dX7_word_45 rfl (lv_at hl 1 rfl) ?_
      obtain ⟨hix, hf⟩ := zx_inv hf
      refine xg_122 hx hb hK hC hk_a10 hix dX7_word_46 ?_
      refine lv_if_ne (tgt := 59) hx hb dX7_word_47 (by decide) (fun h14 => ?_) (fun h14 => ?_)
      · have hf := zif_f hf h14
        refine lv_iconst (v := 0) hx hb dX7_word_59 (by decide) ?_
        exact z_zretM hx hb hr hlocks hC (Or.inl rfl) hf dX7_word_60
      · have hf := zif_t hf h14
        refine lv_aload_n hx hb dX7_word_50 rfl (lv_at hl 0 rfl) ?_
        refine zg_7_21 hx hb hts hi7 hown hK hC hk_th w3 dX7_word_51 ?_
        obtain ⟨a11, ea11, hk_a11, hf⟩ := zn_inv hf
        refine z_ref ea11 ?_
        refine lv_iload_n hx hb dX7_word_54 rfl (lv_at hl 1 rfl) ?_
        obtain ⟨hix, hf⟩ := zx_inv hf
        refine xg_121 hx hb hK hC hk_a11 hix dX7_word_55 ?_
        refine lv_if_eq (tgt := 61) hx hb dX7_word_56 (by decide) (fun h13 => ?_) (fun h13 => ?_)
        · have hf := zif_t hf h13
          refine lv_aload_n hx hb dX7_word_61 rfl (lv_at hl 0 rfl) ?_
          refine zg_7_22 hx hb hts hi7 hown hK hC hk_th w2 dX7_word_62 ?_
          refine z_ref ea10 ?_
          refine lv_iload_n hx hb dX7_word_65 rfl (lv_at hl 1 rfl) ?_
          refine lv_iconst (v := 1) hx hb dX7_word_66 (by decide) ?_
          obtain ⟨hix, hf⟩ := zx_inv hf
          obtain ⟨r12, er12, hf⟩ := zlet_inv hf
          refine xp_122 hx hb hK hC hk_a10 hix (Or.inr rfl) er12 dX7_word_67 (fun H locs hC => ?_)
          refine lv_iconst (v := 1) hx hb dX7_word_68 (by decide) ?_
          exact z_zretM hx hb hr hlocks hC (Or.inr rfl) hf dX7_word_69
        · have hf := zif_f hf h13
          refine lv_iconst (v := 0) hx hb dX7_word_59 (by decide) ?_
          exact z_zretM hx hb hr hlocks hC (Or.inl rfl) hf dX7_word_60
    · have hf := zif_f hf h15
      refine lv_iconst (v := 0) hx hb dX7_word_39 (by decide) ?_
      exact z_zretM hx hb hr hlocks hC (Or.inl rfl) hf dX7_word_40
  unfold f_X7_word at hf
  refine lv_aload_n hx hb dX7_word_0 rfl (lv_at hl 0 rfl) ?_
  refine lv_iconst (v := 0) hx hb dX7_word_1 (by decide) ?_
  obtain ⟨r1, er1, hf⟩ := zlet_inv hf
  refine zp_7_0 hx hb hts hi7 hown hK hC hk_th w0 er1 dX7_word_2 (fun H locs hC => ?_)
  refine lv_aload_n hx hb dX7_word_5 rfl (lv_at hl 0 rfl) ?_
  refine lv_aload_n hx hb dX7_word_6 rfl (lv_at hl 0 rfl) ?_
  refine lv_iload_n hx hb dX7_word_7 rfl (lv_at hl 1 rfl) ?_
  obtain ⟨x3, hc2, hf⟩ := zb_inv hf
  refine z_ci (z_rV (As := [.int p1]) (rest := [.ref th]) ⟨hx, hb, hml, hown, hts⟩ (c_X7_noTrader (l := l) (D := D) (cy := cy) (base := base) (st := st) (K := K) (L := L) (c := c) (r := r1) (o := o) (z := z) th p1 hk_th hc2) (cwV 1 hts gX7_word_X7_noTrader rfl rfl rfl (by decide +kernel) ⟨Nat.le_of_ble_eq_true rfl, Nat.le_of_ble_eq_true rfl⟩) hG hC (zC.recv (ci := 7) (fs := _) hK hC (by rw [hk_th]; decide) (by rw [hk_th]; exact zc_7 cy _ _) rfl) rfl hl.1 rfl (lv_room (Nat.le_of_ble_eq_true rfl)) dX7_word_8 ⟨Nat.le_of_ble_eq_true rfl, Nat.le_of_ble_eq_true rfl⟩) hC (fun H locs hC => ?_)
  refine lv_iconst (v := 1) hx hb dX7_word_11 (by decide) ?_
  obtain ⟨x5, r6, hc4, hf⟩ := zb2_inv hf
  refine z_ci (z_rV (As := [.int x3, .int 1]) (rest := []) ⟨hx, hb, hml, hown, hts⟩ (c_X7_throwsIf (l := l) (D := D) (cy := cy) (base := base) (st := st) (K := K) (L := L) (c := c) (r := r1) (o := o) (z := z) th x3 1 hk_th hc4) (cwV 2 hts gX7_word_X7_throwsIf rfl rfl rfl (by decide +kernel) ⟨Nat.le_of_ble_eq_true rfl, Nat.le_of_ble_eq_true rfl⟩) hG hC (zC.recv (ci := 7) (fs := _) hK hC (by rw [hk_th]; decide) (by rw [hk_th]; exact zc_7 cy _ _) rfl) rfl hl.1 rfl (lv_room (Nat.le_of_ble_eq_true rfl)) dX7_word_12 ⟨Nat.le_of_ble_eq_true rfl, Nat.le_of_ble_eq_true rfl⟩) hC (fun H locs hC => ?_)
  refine lv_if_ne (tgt := 39) hx hb dX7_word_15 (by decide) (fun h17 => ?_) (fun h17 => ?_)
  · have hf := zif_f hf h17
    refine lv_iconst (v := 0) hx hb dX7_word_39 (by decide) ?_
    exact z_zretM hx hb hr hlocks hC (Or.inl rfl) hf dX7_word_40
  · have hf := zif_t hf h17
    refine lv_aload_n hx hb dX7_word_18 rfl (lv_at hl 0 rfl) ?_
    refine lv_aload_n hx hb dX7_word_19 rfl (lv_at hl 0 rfl) ?_
    refine zg_7_37 hx hb hts hi7 hown hK hC hk_th w1 dX7_word_20 ?_
    refine lv_iconst (v := 1) hx hb dX7_word_23 (by decide) ?_
    refine lv_icmp_eq (tgt := 31) hx hb dX7_word_24 (by decide) (fun h16 => ?_) (fun h16 => ?_)
    · have hf := zif_t hf h16
      refine lv_iconst (v := 0) hx hb dX7_word_31 (by decide) ?_
      exact J32 _ _ _ _ th 0 hk_th hC (lv_sub hl [0, 1] rfl) hf
    · have hf := zif_f hf h16
      refine lv_iconst (v := 1) hx hb dX7_word_27 (by decide) ?_
      refine lv_goto (tgt := 32) hx hb dX7_word_28 (by decide) ?_
      exact J32 _ _ _ _ th 1 hk_th hC (lv_sub hl [0, 1] rfl) hf
def f_X7_ranks_58 (K : Nat → Nat) (z : Nat) (th : Nat) (rec2 : (zS → Int32 → Option zS)) (rec12 : (zS → Int32 → Int32 → Option zS)) (rA : zS) (v1 : Int32) (v2 : Int32) : Option zS :=
  zn K (zr rA 49 th 0) 149 fun a1 => zx v2 200 <| zlet (zui rA 149 a1 (Int32.toNatClampNeg v2) v1) fun r2 => zlet (v1 + 1) fun x3 => rec2 r2 x3
def f_X7_ranks_12 (K : Nat → Nat) (z : Nat) (th : Nat) (rec2 : (zS → Int32 → Option zS)) : Nat → zS → Int32 → Int32 → Option zS
  | 0, _, _, _ => none
  | n + 1, rA, v1, v2 =>
    (if v2 ≤ 0 then f_X7_ranks_58 K z th rec2 (f_X7_ranks_12 K z th rec2 n) rA v1 v2 else zn K (zr rA 11 th 0) 111 fun a4 => zn K (zr rA 49 th 0) 149 fun a5 => zx (v2 - 1) 200 <| zx (zi rA 149 a5 (Int32.toNatClampNeg (v2 - 1))) 200 <| zx v1 200 <| (if (zi rA 111 a4 (Int32.toNatClampNeg (zi rA 149 a5 (Int32.toNatClampNeg (v2 - 1))))) ≤ (zi rA 111 a4 (Int32.toNatClampNeg v1)) then f_X7_ranks_58 K z th rec2 (f_X7_ranks_12 K z th rec2 n) rA v1 v2 else zx (v2 - 1) 200 <| zx v2 200 <| zlet (zui rA 149 a5 (Int32.toNatClampNeg v2) (zi rA 149 a5 (Int32.toNatClampNeg (v2 - 1)))) fun r6 => zlet (v2 + (-1)) fun x7 => f_X7_ranks_12 K z th rec2 n r6 v1 x7))
def f_X7_ranks_2 (K : Nat → Nat) (z : Nat) (th : Nat) : Nat → zS → Int32 → Option zS
  | 0, _, _ => none
  | n + 1, rA, v1 =>
    (if (zi rA 35 th 0) ≤ v1 then some rA else f_X7_ranks_12 K z th (f_X7_ranks_2 K z th n) z rA v1 v1)
def f_X7_ranks (K : Nat → Nat) (z : Nat) (r : zS) (th : Nat) : Option zS :=
  f_X7_ranks_2 K z th z r 0
set_option maxRecDepth 100000 in
set_option maxHeartbeats 4000000 in
theorem c_X7_ranks {l : Launch} {D : va_G} {cy : Nat → ClassId} {base : Nat} {st : Nat → Nat} {K : Nat → Nat} {L : List Nat} {c r : zS} {o : Int64} {z : Nat} (th : Nat) {rf : zS}  (hk_th : K th = 7) (hf : f_X7_ranks K z r th = some rf) : Met l yX7_ranks wsX7_ranks ({ frames := 0, cells := 0, slots := 0, locals := 0 }) (va_Pc [.ref th] (zGW zts0 zns0 D cy base st K L (c, r, o))) (va_Qv (fun (_ : Unit) => True) (fun _ => zB D cy base K L (c, rf, o)) (zA base)) 0 0 (zA base) := by
  refine Met.ofW (cc := cX7_ranks) (maxL := 3) (ret := none) (by decide) rfl ?_
  intro p e s m args below meth cd s₁ B hml hv
  obtain ⟨rfl, hG⟩ := hv
  have hx := B.exec
  have hb := B.bytes
  have hr := B.returns
  have hts := atoms_spec (ws := wsX7_ranks) B.pre
  have hown : s.vm.findClass RX7 = some m.cls := findClass_of_methodNamed B.named
  have hlocks := B.notSynchronized
  have hC := hG.enter
  have hK := hG.2.2.2.1
  have hi7 : ∀ w ∈ wsX70, w ∈ wsX7_ranks := by decide +kernel
  have w0 := hts (.fieldLink RX7 131 "MarketSquareModel" "traders" "I") (by decide +kernel)
  have w1 := hts (.fieldLink RX7 121 "MarketSquareModel" "ranked" "[I") (by decide +kernel)
  have w2 := hts (.fieldLink RX7 39 "MarketSquareModel" "rank" "[I") (by decide +kernel)
  have hl := lv_entry ([.ref th]) (n := 3) (Nat.le_of_ble_eq_true rfl)
  rw [lg_entry_eq]
  generalize (lg_sl ([.ref th]) ++ List.replicate (3 - (lg_sl ([.ref th])).length) Slot.unset).toArray = ls at hl ⊢
  have hl : lv_has ls 3 [(0, .ref th)] := hl
  have L2 : ∀ (n2 : Nat) (rA : zS) (H : Heap) (locs : List Loc) (ls : Array Slot) (v1 : Int32), zC D cy base K L (c, rA, o) s.heap H locs → lv_has ls 3 [(0, .ref th), (1, .int v1)] → f_X7_ranks_2 K z th n2 rA v1 = some rf → W p l e (headSpec wsX7_ranks ({ frames := 0, cells := 0, slots := 0, locals := 0 })).room s m ([.ref th] : List Value).toArray below meth cd H locs 0 0 (MQ below (va_Qv (fun (_ : Unit) => True) (fun _ => zB D cy base K L (c, rf, o)) (zA base)) ([.ref th] : List Value).toArray s 0 0 (zA base)) (F0 m 2 ls []) := by
    intro n2
    induction n2 with
    | zero => intro rA H locs ls v1 hC hl hf; rw [f_X7_ranks_2] at hf; cases hf
    | succ n2 ih2 =>
      intro rA H locs ls v1 hC hl hf
      rw [f_X7_ranks_2] at hf
      have L12 : ∀ (n12 : Nat) (rA : zS) (H : Heap) (locs : List Loc) (ls : Array Slot) (v1 : Int32) (v2 : Int32), zC D cy base K L (c, rA, o) s.heap H locs → lv_has ls 3 [(0, .ref th), (1, .int v1), (2, .int v2)] → f_X7_ranks_12 K z th (f_X7_ranks_2 K z th n2) n12 rA v1 v2 = some rf → W p l e (headSpec wsX7_ranks ({ frames := 0, cells := 0, slots := 0, locals := 0 })).room s m ([.ref th] : List Value).toArray below meth cd H locs 0 0 (MQ below (va_Qv (fun (_ : Unit) => True) (fun _ => zB D cy base K L (c, rf, o)) (zA base)) ([.ref th] : List Value).toArray s 0 0 (zA base)) (F0 m 12 ls []) := by
        intro n12
        induction n12 with
        | zero => intro rA H locs ls v1 v2 hC hl hf; rw [f_X7_ranks_12] at hf; cases hf
        | succ n12 ih12 =>
          intro rA H locs ls v1 v2 hC hl hf
          rw [f_X7_ranks_12] at hf
          have J58 : ∀ (rA : zS) (H : Heap) (locs : List Loc) (ls : Array Slot) (v1 : Int32) (v2 : Int32), zC D cy base K L (c, rA, o) s.heap H locs → lv_has ls 3 [(0, .ref th), (1, .int v1), (2, .int v2)] → f_X7_ranks_58 K z th (f_X7_ranks_2 K z th n2) (f_X7_ranks_12 K z th (f_X7_ranks_2 K z th n2) n12) rA v1 v2 = some rf → W p l e (headSpec wsX7_ranks ({ frames := 0, cells := 0, slots := 0, locals := 0 })).room s m ([.ref th] : List Value).toArray below meth cd H locs 0 0 (MQ below (va_Qv (fun (_ : Unit) => True) (fun _ => zB D cy base K L (c, rf, o)) (zA base)) ([.ref th] : List Value).toArray s 0 0 (zA base)) (F0 m 58 ls []) := by
            intro rA H locs ls v1 v2 hC hl hf
            unfold f_X7_ranks_58 at hf
            refine lv_aload_n hx hb dX7_ranks_58 rfl (lv_at hl 0 rfl) ?_
            refine zg_7_49 hx hb hts hi7 hown hK hC hk_th w1 dX7_ranks_59 ?_
            obtain ⟨a1, ea1, hk_a1, hf⟩ := zn_inv hf
            refine z_ref ea1 ?_
            refine lv_iload_n hx hb dX7_ranks_62 rfl (lv_at hl 2 rfl) ?_
            refine lv_iload_n hx hb dX7_ranks_63 rfl (lv_at hl 1 rfl) ?_
            obtain ⟨hix, hf⟩ := zx_inv hf
            obtain ⟨r2, er2, hf⟩ := zlet_inv hf
            refine xp_149 hx hb hK hC hk_a1 hix er2 dX7_ranks_64 (fun H locs hC => ?_)
            obtain ⟨x3, ex3, hf⟩ := zlet_inv hf
            refine lv_iinc (v := x3) (lv' := [(1, .int x3), (0, .ref th), (2, .int v2)]) hx hb dX7_ranks_65 hl (k := 1) rfl (by rw [ex3]; rfl) (by decide) rfl (fun ls hl => ?_)
            refine lv_goto (tgt := 2) hx hb dX7_ranks_68 (by decide) ?_
            exact ih2 _ _ _ _ x3 hC (lv_sub hl [1, 0] rfl) hf
          refine lv_iload_n hx hb dX7_ranks_12 rfl (lv_at hl 2 rfl) ?_
          refine lv_if_le (tgt := 58) hx hb dX7_ranks_13 (by decide) (fun h9 => ?_) (fun h9 => ?_)
          · have hf := zif_t hf h9
            exact J58 _ _ _ _ v1 v2 hC (lv_sub hl [0, 1, 2] rfl) hf
          · have hf := zif_f hf h9
            refine lv_aload_n hx hb dX7_ranks_16 rfl (lv_at hl 0 rfl) ?_
            refine zg_7_11 hx hb hts hi7 hown hK hC hk_th w2 dX7_ranks_17 ?_
            obtain ⟨a4, ea4, hk_a4, hf⟩ := zn_inv hf
            refine z_ref ea4 ?_
            refine lv_aload_n hx hb dX7_ranks_20 rfl (lv_at hl 0 rfl) ?_
            refine zg_7_49 hx hb hts hi7 hown hK hC hk_th w1 dX7_ranks_21 ?_
            obtain ⟨a5, ea5, hk_a5, hf⟩ := zn_inv hf
            refine z_ref ea5 ?_
            refine lv_iload_n hx hb dX7_ranks_24 rfl (lv_at hl 2 rfl) ?_
            refine lv_iconst (v := 1) hx hb dX7_ranks_25 (by decide) ?_
            refine lv_isub hx hb dX7_ranks_26 ?_
            obtain ⟨hix, hf⟩ := zx_inv hf
            refine xg_149 hx hb hK hC hk_a5 hix dX7_ranks_27 ?_
            obtain ⟨hix, hf⟩ := zx_inv hf
            refine xg_111 hx hb hK hC hk_a4 hix dX7_ranks_28 ?_
            refine lv_aload_n hx hb dX7_ranks_29 rfl (lv_at hl 0 rfl) ?_
            refine zg_7_11 hx hb hts hi7 hown hK hC hk_th w2 dX7_ranks_30 ?_
            refine z_ref ea4 ?_
            refine lv_iload_n hx hb dX7_ranks_33 rfl (lv_at hl 1 rfl) ?_
            obtain ⟨hix, hf⟩ := zx_inv hf
            refine xg_111 hx hb hK hC hk_a4 hix dX7_ranks_34 ?_
            refine lv_icmp_le (tgt := 58) hx hb dX7_ranks_35 (by decide) (fun h8 => ?_) (fun h8 => ?_)
            · have hf := zif_t hf h8
              exact J58 _ _ _ _ v1 v2 hC (lv_sub hl [0, 1, 2] rfl) hf
            · have hf := zif_f hf h8
              refine lv_aload_n hx hb dX7_ranks_38 rfl (lv_at hl 0 rfl) ?_
              refine zg_7_49 hx hb hts hi7 hown hK hC hk_th w1 dX7_ranks_39 ?_
              refine z_ref ea5 ?_
              refine lv_iload_n hx hb dX7_ranks_42 rfl (lv_at hl 2 rfl) ?_
              refine lv_aload_n hx hb dX7_ranks_43 rfl (lv_at hl 0 rfl) ?_
              refine zg_7_49 hx hb hts hi7 hown hK hC hk_th w1 dX7_ranks_44 ?_
              refine z_ref ea5 ?_
              refine lv_iload_n hx hb dX7_ranks_47 rfl (lv_at hl 2 rfl) ?_
              refine lv_iconst (v := 1) hx hb dX7_ranks_48 (by decide) ?_
              refine lv_isub hx hb dX7_ranks_49 ?_
              obtain ⟨hix, hf⟩ := zx_inv hf
              refine xg_149 hx hb hK hC hk_a5 hix dX7_ranks_50 ?_
              obtain ⟨hix, hf⟩ := zx_inv hf
              obtain ⟨r6, er6, hf⟩ := zlet_inv hf
              refine xp_149 hx hb hK hC hk_a5 hix er6 dX7_ranks_51 (fun H locs hC => ?_)
              obtain ⟨x7, ex7, hf⟩ := zlet_inv hf
              refine lv_iinc (v := x7) (lv' := [(2, .int x7), (0, .ref th), (1, .int v1)]) hx hb dX7_ranks_52 hl (k := 2) rfl (by rw [ex7]; rfl) (by decide) rfl (fun ls hl => ?_)
              refine lv_goto (tgt := 12) hx hb dX7_ranks_55 (by decide) ?_
              exact ih12 _ _ _ _ v1 x7 hC (lv_sub hl [1, 2, 0] rfl) hf
      refine lv_iload_n hx hb dX7_ranks_2 rfl (lv_at hl 1 rfl) ?_
      refine lv_aload_n hx hb dX7_ranks_3 rfl (lv_at hl 0 rfl) ?_
      refine zg_7_35 hx hb hts hi7 hown hK hC hk_th w0 dX7_ranks_4 ?_
      refine lv_icmp_ge (tgt := 71) hx hb dX7_ranks_7 (by decide) (fun h10 => ?_) (fun h10 => ?_)
      · have hf := zif_t hf h10
        exact z_vretM hx hb hr hlocks hC hf dX7_ranks_71
      · have hf := zif_f hf h10
        refine lv_iload_n hx hb dX7_ranks_10 rfl (lv_at hl 1 rfl) ?_
        refine lv_istore_n (lv' := [(2, .int v1), (0, .ref th), (1, .int v1)]) hx hb dX7_ranks_11 rfl hl (by decide) rfl (fun ls hl => ?_)
        exact L12 z _ _ _ _ v1 v1 hC (lv_sub hl [1, 2, 0] rfl) hf
  unfold f_X7_ranks at hf
  refine lv_iconst (v := 0) hx hb dX7_ranks_0 (by decide) ?_
  refine lv_istore_n (lv' := [(1, .int 0), (0, .ref th)]) hx hb dX7_ranks_1 rfl hl (by decide) rfl (fun ls hl => ?_)
  exact L2 z _ _ _ _ 0 hC (lv_sub hl [1, 0] rfl) hf
def f_X7_isWithin (K : Nat → Nat) (z : Nat) (r : zS) (th : Nat) (p1 : Int32) (p2 : Int32) (p3 : Int32) : Option Int32 :=
  zb (f_X7_isRow K z r th p2) fun x2 => (if x2 = 0 then some 0 else (if p3 < 0 then some 0 else zn K (zr r 10 th 0) 110 fun a3 => zx p1 200 <| zn K (zr r 1 th 0) 101 fun a4 => zx p2 40 <| (if 0 < (lg_cmp ((Int32.toInt64 p3) + (Int32.toInt64 (zi r 110 a3 (Int32.toNatClampNeg p1)))) (Int32.toInt64 (zi r 101 a4 (Int32.toNatClampNeg p2)))) then some 0 else some 1)))
set_option maxRecDepth 100000 in
set_option maxHeartbeats 4000000 in
theorem c_X7_isWithin {l : Launch} {D : va_G} {cy : Nat → ClassId} {base : Nat} {st : Nat → Nat} {K : Nat → Nat} {L : List Nat} {c r : zS} {o : Int64} {z : Nat} (th : Nat) (p1 : Int32) (p2 : Int32) (p3 : Int32) {rv : Int32}  (hk_th : K th = 7) (hf : f_X7_isWithin K z r th p1 p2 p3 = some rv) : Met l yX7_isWithin wsX7_isWithin ({ frames := 2, cells := 0, slots := 0, locals := 41 }) (va_Pc [.ref th, .int p1, .int p2, .int p3] (zGW zts0 zns0 D cy base st K L (c, r, o))) (va_Qi (fun (rr : Int32) (_ : Unit) => rr = rv) (fun _ => zB D cy base K L (c, r, o)) (zA base)) 0 0 (zA base) := by
  refine Met.ofW (cc := cX7_isWithin) (maxL := 4) (ret := (some .boolean)) (by decide) rfl ?_
  intro p e s m args below meth cd s₁ B hml hv
  obtain ⟨rfl, hG⟩ := hv
  have hx := B.exec
  have hb := B.bytes
  have hr := B.returns
  have hts := atoms_spec (ws := wsX7_isWithin) B.pre
  have hown : s.vm.findClass RX7 = some m.cls := findClass_of_methodNamed B.named
  have hlocks := B.notSynchronized
  have hC := hG.enter
  have hK := hG.2.2.2.1
  have hi7 : ∀ w ∈ wsX70, w ∈ wsX7_isWithin := by decide +kernel
  have w0 := hts (.fieldLink RX7 36 "MarketSquareModel" "front" "[I") (by decide +kernel)
  have w1 := hts (.fieldLink RX7 9 "MarketSquareModel" "places" "[I") (by decide +kernel)
  have hl := lv_entry ([.ref th, .int p1, .int p2, .int p3]) (n := 4) (Nat.le_of_ble_eq_true rfl)
  rw [lg_entry_eq]
  generalize (lg_sl ([.ref th, .int p1, .int p2, .int p3]) ++ List.replicate (4 - (lg_sl ([.ref th, .int p1, .int p2, .int p3])).length) Slot.unset).toArray = ls at hl ⊢
  have hl : lv_has ls 4 [(0, .ref th), (1, .int p1), (2, .int p2), (3, .int p3)] := hl
  unfold f_X7_isWithin at hf
  refine lv_aload_n hx hb dX7_isWithin_0 rfl (lv_at hl 0 rfl) ?_
  refine lv_iload_n hx hb dX7_isWithin_1 rfl (lv_at hl 2 rfl) ?_
  obtain ⟨x2, hc1, hf⟩ := zb_inv hf
  refine z_ci (z_rV (As := [.int p2]) (rest := []) ⟨hx, hb, hml, hown, hts⟩ (c_X7_isRow (l := l) (D := D) (cy := cy) (base := base) (st := st) (K := K) (L := L) (c := c) (r := r) (o := o) (z := z) th p2 hk_th hc1) (cwV 1 hts gX7_isWithin_X7_isRow rfl rfl rfl (by decide +kernel) ⟨Nat.le_of_ble_eq_true rfl, Nat.le_of_ble_eq_true rfl⟩) hG hC (zC.recv (ci := 7) (fs := _) hK hC (by rw [hk_th]; decide) (by rw [hk_th]; exact zc_7 cy _ _) rfl) rfl hl.1 rfl (lv_room (Nat.le_of_ble_eq_true rfl)) dX7_isWithin_2 ⟨Nat.le_of_ble_eq_true rfl, Nat.le_of_ble_eq_true rfl⟩) hC (fun H locs hC => ?_)
  refine lv_if_eq (tgt := 37) hx hb dX7_isWithin_5 (by decide) (fun h7 => ?_) (fun h7 => ?_)
  · have hf := zif_t hf h7
    refine lv_iconst (v := 0) hx hb dX7_isWithin_37 (by decide) ?_
    exact z_zret hx hb hr hlocks hC (Or.inl rfl) hf dX7_isWithin_38
  · have hf := zif_f hf h7
    refine lv_iload_n hx hb dX7_isWithin_8 rfl (lv_at hl 3 rfl) ?_
    refine lv_if_lt (tgt := 37) hx hb dX7_isWithin_9 (by decide) (fun h6 => ?_) (fun h6 => ?_)
    · have hf := zif_t hf h6
      refine lv_iconst (v := 0) hx hb dX7_isWithin_37 (by decide) ?_
      exact z_zret hx hb hr hlocks hC (Or.inl rfl) hf dX7_isWithin_38
    · have hf := zif_f hf h6
      refine lv_iload_n hx hb dX7_isWithin_12 rfl (lv_at hl 3 rfl) ?_
      refine lv_i2l (v := (Int32.toInt64 p3)) hx hb dX7_isWithin_13 rfl ?_
      refine lv_aload_n hx hb dX7_isWithin_14 rfl (lv_at hl 0 rfl) ?_
      refine zg_7_10 hx hb hts hi7 hown hK hC hk_th w0 dX7_isWithin_15 ?_
      obtain ⟨a3, ea3, hk_a3, hf⟩ := zn_inv hf
      refine z_ref ea3 ?_
      refine lv_iload_n hx hb dX7_isWithin_18 rfl (lv_at hl 1 rfl) ?_
      obtain ⟨hix, hf⟩ := zx_inv hf
      refine xg_110 hx hb hK hC hk_a3 hix dX7_isWithin_19 ?_
      refine lv_i2l (v := (Int32.toInt64 (zi r 110 a3 (Int32.toNatClampNeg p1)))) hx hb dX7_isWithin_20 rfl ?_
      refine lv_ladd hx hb dX7_isWithin_21 ?_
      refine lv_aload_n hx hb dX7_isWithin_22 rfl (lv_at hl 0 rfl) ?_
      refine zg_7_1 hx hb hts hi7 hown hK hC hk_th w1 dX7_isWithin_23 ?_
      obtain ⟨a4, ea4, hk_a4, hf⟩ := zn_inv hf
      refine z_ref ea4 ?_
      refine lv_iload_n hx hb dX7_isWithin_26 rfl (lv_at hl 2 rfl) ?_
      obtain ⟨hix, hf⟩ := zx_inv hf
      refine xg_101 hx hb hK hC hk_a4 hix dX7_isWithin_27 ?_
      refine lv_i2l (v := (Int32.toInt64 (zi r 101 a4 (Int32.toNatClampNeg p2)))) hx hb dX7_isWithin_28 rfl ?_
      refine W.lcmp hx hb dX7_isWithin_29 ?_
      refine lv_if_gt (tgt := 37) hx hb dX7_isWithin_30 (by decide) (fun h5 => ?_) (fun h5 => ?_)
      · have hf := zif_t hf h5
        refine lv_iconst (v := 0) hx hb dX7_isWithin_37 (by decide) ?_
        exact z_zret hx hb hr hlocks hC (Or.inl rfl) hf dX7_isWithin_38
      · have hf := zif_f hf h5
        refine lv_iconst (v := 1) hx hb dX7_isWithin_33 (by decide) ?_
        refine lv_goto (tgt := 38) hx hb dX7_isWithin_34 (by decide) ?_
        exact z_zret hx hb hr hlocks hC (Or.inr rfl) hf dX7_isWithin_38
def f_X7_isMarked_6 (K : Nat → Nat) (z : Nat) (r : zS) (th : Nat) (p1 : Int32) (p2 : Int32) (p3 : Int32) (p4 : Int32) : Nat → Int32 → Int32 → Option Int32
  | 0, _, _ => none
  | n + 1, v5, v6 =>
    zn K (zr r 10 th 0) 110 fun a1 => zx p1 200 <| (if (p3 + (zi r 110 a1 (Int32.toNatClampNeg p1))) ≤ v6 then zz v5 <| some v5 else (if v5 = 0 then zn K (zr r 2 th 0) 102 fun a4 => zx ((200 * p2) + v6) 8000 <| (if ((zi r 102 a4 (Int32.toNatClampNeg ((200 * p2) + v6))) &&& p4) = 0 then zlet (v6 + 1) fun x5 => f_X7_isMarked_6 K z r th p1 p2 p3 p4 n 0 x5 else zlet (v6 + 1) fun x6 => f_X7_isMarked_6 K z r th p1 p2 p3 p4 n 1 x6) else zlet (v6 + 1) fun x3 => f_X7_isMarked_6 K z r th p1 p2 p3 p4 n 1 x3))
def f_X7_isMarked (K : Nat → Nat) (z : Nat) (r : zS) (th : Nat) (p1 : Int32) (p2 : Int32) (p3 : Int32) (p4 : Int32) : Option Int32 :=
  f_X7_isMarked_6 K z r th p1 p2 p3 p4 z 0 p3
set_option maxRecDepth 100000 in
set_option maxHeartbeats 4000000 in
theorem c_X7_isMarked {l : Launch} {D : va_G} {cy : Nat → ClassId} {base : Nat} {st : Nat → Nat} {K : Nat → Nat} {L : List Nat} {c r : zS} {o : Int64} {z : Nat} (th : Nat) (p1 : Int32) (p2 : Int32) (p3 : Int32) (p4 : Int32) {rv : Int32}  (hk_th : K th = 7) (hf : f_X7_isMarked K z r th p1 p2 p3 p4 = some rv) : Met l yX7_isMarked wsX7_isMarked ({ frames := 0, cells := 0, slots := 0, locals := 0 }) (va_Pc [.ref th, .int p1, .int p2, .int p3, .int p4] (zGW zts0 zns0 D cy base st K L (c, r, o))) (va_Qi (fun (rr : Int32) (_ : Unit) => rr = rv) (fun _ => zB D cy base K L (c, r, o)) (zA base)) 0 0 (zA base) := by
  refine Met.ofW (cc := cX7_isMarked) (maxL := 7) (ret := (some .boolean)) (by decide) rfl ?_
  intro p e s m args below meth cd s₁ B hml hv
  obtain ⟨rfl, hG⟩ := hv
  have hx := B.exec
  have hb := B.bytes
  have hr := B.returns
  have hts := atoms_spec (ws := wsX7_isMarked) B.pre
  have hown : s.vm.findClass RX7 = some m.cls := findClass_of_methodNamed B.named
  have hlocks := B.notSynchronized
  have hC := hG.enter
  have hK := hG.2.2.2.1
  have hi7 : ∀ w ∈ wsX70, w ∈ wsX7_isMarked := by decide +kernel
  have w0 := hts (.fieldLink RX7 36 "MarketSquareModel" "front" "[I") (by decide +kernel)
  have w1 := hts (.fieldLink RX7 13 "MarketSquareModel" "marks" "[B") (by decide +kernel)
  have hl := lv_entry ([.ref th, .int p1, .int p2, .int p3, .int p4]) (n := 7) (Nat.le_of_ble_eq_true rfl)
  rw [lg_entry_eq]
  generalize (lg_sl ([.ref th, .int p1, .int p2, .int p3, .int p4]) ++ List.replicate (7 - (lg_sl ([.ref th, .int p1, .int p2, .int p3, .int p4])).length) Slot.unset).toArray = ls at hl ⊢
  have hl : lv_has ls 7 [(0, .ref th), (1, .int p1), (2, .int p2), (3, .int p3), (4, .int p4)] := hl
  have L6 : ∀ (n6 : Nat) (H : Heap) (locs : List Loc) (ls : Array Slot) (v5 : Int32) (v6 : Int32), zC D cy base K L (c, r, o) s.heap H locs → lv_has ls 7 [(0, .ref th), (1, .int p1), (2, .int p2), (3, .int p3), (4, .int p4), (5, .int v5), (6, .int v6)] → f_X7_isMarked_6 K z r th p1 p2 p3 p4 n6 v5 v6 = some rv → W p l e (headSpec wsX7_isMarked ({ frames := 0, cells := 0, slots := 0, locals := 0 })).room s m ([.ref th, .int p1, .int p2, .int p3, .int p4] : List Value).toArray below meth cd H locs 0 0 (MQ below (va_Qi (fun (rr : Int32) (_ : Unit) => rr = rv) (fun _ => zB D cy base K L (c, r, o)) (zA base)) ([.ref th, .int p1, .int p2, .int p3, .int p4] : List Value).toArray s 0 0 (zA base)) (F0 m 6 ls []) := by
    intro n6
    induction n6 with
    | zero => intro H locs ls v5 v6 hC hl hf; rw [f_X7_isMarked_6] at hf; cases hf
    | succ n6 ih6 =>
      intro H locs ls v5 v6 hC hl hf
      rw [f_X7_isMarked_6] at hf
      refine lv_iload hx hb dX7_isMarked_6 (lv_at hl 6 rfl) ?_
      refine lv_iload_n hx hb dX7_isMarked_8 rfl (lv_at hl 3 rfl) ?_
      refine lv_aload_n hx hb dX7_isMarked_9 rfl (lv_at hl 0 rfl) ?_
      refine zg_7_10 hx hb hts hi7 hown hK hC hk_th w0 dX7_isMarked_10 ?_
      obtain ⟨a1, ea1, hk_a1, hf⟩ := zn_inv hf
      refine z_ref ea1 ?_
      refine lv_iload_n hx hb dX7_isMarked_13 rfl (lv_at hl 1 rfl) ?_
      obtain ⟨hix, hf⟩ := zx_inv hf
      refine xg_110 hx hb hK hC hk_a1 hix dX7_isMarked_14 ?_
      refine lv_iadd hx hb dX7_isMarked_15 ?_
      refine lv_icmp_ge (tgt := 56) hx hb dX7_isMarked_16 (by decide) (fun h9 => ?_) (fun h9 => ?_)
      · have hf := zif_t hf h9
        refine lv_iload hx hb dX7_isMarked_56 (lv_at hl 5 rfl) ?_
        obtain ⟨hz2, hf⟩ := zz_inv hf
        exact z_zret hx hb hr hlocks hC hz2 hf dX7_isMarked_58
      · have hf := zif_f hf h9
        refine lv_iload hx hb dX7_isMarked_19 (lv_at hl 5 rfl) ?_
        refine lv_if_ne (tgt := 43) hx hb dX7_isMarked_21 (by decide) (fun h8 => ?_) (fun h8 => ?_)
        · have hf := zif_f hf h8
          refine lv_iconst (v := 1) hx hb dX7_isMarked_43 (by decide) ?_
          refine lv_goto (tgt := 48) hx hb dX7_isMarked_44 (by decide) ?_
          refine lv_istore (lv' := [(5, .int 1), (0, .ref th), (1, .int p1), (2, .int p2), (3, .int p3), (4, .int p4), (6, .int v6)]) hx hb dX7_isMarked_48 hl (by decide) rfl (fun ls hl => ?_)
          obtain ⟨x3, ex3, hf⟩ := zlet_inv hf
          refine lv_iinc (v := x3) (lv' := [(6, .int x3), (5, .int 1), (0, .ref th), (1, .int p1), (2, .int p2), (3, .int p3), (4, .int p4)]) hx hb dX7_isMarked_50 hl (k := 6) rfl (by rw [ex3]; rfl) (by decide) rfl (fun ls hl => ?_)
          refine lv_goto (tgt := 6) hx hb dX7_isMarked_53 (by decide) ?_
          exact ih6 _ _ _ 1 x3 hC (lv_sub hl [2, 3, 4, 5, 6, 1, 0] rfl) hf
        · have hf := zif_t hf h8
          refine lv_aload_n hx hb dX7_isMarked_24 rfl (lv_at hl 0 rfl) ?_
          refine zg_7_2 hx hb hts hi7 hown hK hC hk_th w1 dX7_isMarked_25 ?_
          obtain ⟨a4, ea4, hk_a4, hf⟩ := zn_inv hf
          refine z_ref ea4 ?_
          refine lv_sipush (v := 200) hx hb dX7_isMarked_28 (by decide) ?_
          refine lv_iload_n hx hb dX7_isMarked_31 rfl (lv_at hl 2 rfl) ?_
          refine lv_imul hx hb dX7_isMarked_32 ?_
          refine lv_iload hx hb dX7_isMarked_33 (lv_at hl 6 rfl) ?_
          refine lv_iadd hx hb dX7_isMarked_35 ?_
          obtain ⟨hix, hf⟩ := zx_inv hf
          refine xg_102 hx hb hK hC hk_a4 hix dX7_isMarked_36 ?_
          refine lv_iload hx hb dX7_isMarked_37 (lv_at hl 4 rfl) ?_
          refine lv_iand hx hb dX7_isMarked_39 ?_
          refine lv_if_eq (tgt := 47) hx hb dX7_isMarked_40 (by decide) (fun h7 => ?_) (fun h7 => ?_)
          · have hf := zif_t hf h7
            refine lv_iconst (v := 0) hx hb dX7_isMarked_47 (by decide) ?_
            refine lv_istore (lv' := [(5, .int 0), (0, .ref th), (1, .int p1), (2, .int p2), (3, .int p3), (4, .int p4), (6, .int v6)]) hx hb dX7_isMarked_48 hl (by decide) rfl (fun ls hl => ?_)
            obtain ⟨x5, ex5, hf⟩ := zlet_inv hf
            refine lv_iinc (v := x5) (lv' := [(6, .int x5), (5, .int 0), (0, .ref th), (1, .int p1), (2, .int p2), (3, .int p3), (4, .int p4)]) hx hb dX7_isMarked_50 hl (k := 6) rfl (by rw [ex5]; rfl) (by decide) rfl (fun ls hl => ?_)
            refine lv_goto (tgt := 6) hx hb dX7_isMarked_53 (by decide) ?_
            exact ih6 _ _ _ 0 x5 hC (lv_sub hl [2, 3, 4, 5, 6, 1, 0] rfl) hf
          · have hf := zif_f hf h7
            refine lv_iconst (v := 1) hx hb dX7_isMarked_43 (by decide) ?_
            refine lv_goto (tgt := 48) hx hb dX7_isMarked_44 (by decide) ?_
            refine lv_istore (lv' := [(5, .int 1), (0, .ref th), (1, .int p1), (2, .int p2), (3, .int p3), (4, .int p4), (6, .int v6)]) hx hb dX7_isMarked_48 hl (by decide) rfl (fun ls hl => ?_)
            obtain ⟨x6, ex6, hf⟩ := zlet_inv hf
            refine lv_iinc (v := x6) (lv' := [(6, .int x6), (5, .int 1), (0, .ref th), (1, .int p1), (2, .int p2), (3, .int p3), (4, .int p4)]) hx hb dX7_isMarked_50 hl (k := 6) rfl (by rw [ex6]; rfl) (by decide) rfl (fun ls hl => ?_)
            refine lv_goto (tgt := 6) hx hb dX7_isMarked_53 (by decide) ?_
            exact ih6 _ _ _ 1 x6 hC (lv_sub hl [2, 3, 4, 5, 6, 1, 0] rfl) hf
  unfold f_X7_isMarked at hf
  refine lv_iconst (v := 0) hx hb dX7_isMarked_0 (by decide) ?_
  refine lv_istore (lv' := [(5, .int 0), (0, .ref th), (1, .int p1), (2, .int p2), (3, .int p3), (4, .int p4)]) hx hb dX7_isMarked_1 hl (by decide) rfl (fun ls hl => ?_)
  refine lv_iload_n hx hb dX7_isMarked_3 rfl (lv_at hl 4 rfl) ?_
  refine lv_istore (lv' := [(6, .int p3), (5, .int 0), (0, .ref th), (1, .int p1), (2, .int p2), (3, .int p3), (4, .int p4)]) hx hb dX7_isMarked_4 hl (by decide) rfl (fun ls hl => ?_)
  exact L6 z _ _ _ 0 p3 hC (lv_sub hl [2, 3, 4, 5, 6, 1, 0] rfl) hf
def f_X7_endOf (K : Nat → Nat) (z : Nat) (r : zS) (th : Nat) (p1 : Int32) : Option Int32 :=
  zn K (zr r 29 th 0) 129 fun a1 => zx p1 200 <| zn K (zr r 10 th 0) 110 fun a2 => zx p1 200 <| some ((zi r 129 a1 (Int32.toNatClampNeg p1)) + (zi r 110 a2 (Int32.toNatClampNeg p1)))
set_option maxRecDepth 100000 in
set_option maxHeartbeats 4000000 in
theorem c_X7_endOf {l : Launch} {D : va_G} {cy : Nat → ClassId} {base : Nat} {st : Nat → Nat} {K : Nat → Nat} {L : List Nat} {c r : zS} {o : Int64} {z : Nat} (th : Nat) (p1 : Int32) {rv : Int32}  (hk_th : K th = 7) (hf : f_X7_endOf K z r th p1 = some rv) : Met l yX7_endOf wsX7_endOf ({ frames := 0, cells := 0, slots := 0, locals := 0 }) (va_Pc [.ref th, .int p1] (zGW zts0 zns0 D cy base st K L (c, r, o))) (va_Qi (fun (rr : Int32) (_ : Unit) => rr = rv) (fun _ => zB D cy base K L (c, r, o)) (zA base)) 0 0 (zA base) := by
  refine Met.ofW (cc := cX7_endOf) (maxL := 2) (ret := (some .int)) (by decide) rfl ?_
  intro p e s m args below meth cd s₁ B hml hv
  obtain ⟨rfl, hG⟩ := hv
  have hx := B.exec
  have hb := B.bytes
  have hr := B.returns
  have hts := atoms_spec (ws := wsX7_endOf) B.pre
  have hown : s.vm.findClass RX7 = some m.cls := findClass_of_methodNamed B.named
  have hlocks := B.notSynchronized
  have hC := hG.enter
  have hK := hG.2.2.2.1
  have hi7 : ∀ w ∈ wsX70, w ∈ wsX7_endOf := by decide +kernel
  have w0 := hts (.fieldLink RX7 93 "MarketSquareModel" "stallPlace" "[I") (by decide +kernel)
  have w1 := hts (.fieldLink RX7 36 "MarketSquareModel" "front" "[I") (by decide +kernel)
  have hl := lv_entry ([.ref th, .int p1]) (n := 2) (Nat.le_of_ble_eq_true rfl)
  rw [lg_entry_eq]
  generalize (lg_sl ([.ref th, .int p1]) ++ List.replicate (2 - (lg_sl ([.ref th, .int p1])).length) Slot.unset).toArray = ls at hl ⊢
  have hl : lv_has ls 2 [(0, .ref th), (1, .int p1)] := hl
  unfold f_X7_endOf at hf
  refine lv_aload_n hx hb dX7_endOf_0 rfl (lv_at hl 0 rfl) ?_
  refine zg_7_29 hx hb hts hi7 hown hK hC hk_th w0 dX7_endOf_1 ?_
  obtain ⟨a1, ea1, hk_a1, hf⟩ := zn_inv hf
  refine z_ref ea1 ?_
  refine lv_iload_n hx hb dX7_endOf_4 rfl (lv_at hl 1 rfl) ?_
  obtain ⟨hix, hf⟩ := zx_inv hf
  refine xg_129 hx hb hK hC hk_a1 hix dX7_endOf_5 ?_
  refine lv_aload_n hx hb dX7_endOf_6 rfl (lv_at hl 0 rfl) ?_
  refine zg_7_10 hx hb hts hi7 hown hK hC hk_th w1 dX7_endOf_7 ?_
  obtain ⟨a2, ea2, hk_a2, hf⟩ := zn_inv hf
  refine z_ref ea2 ?_
  refine lv_iload_n hx hb dX7_endOf_10 rfl (lv_at hl 1 rfl) ?_
  obtain ⟨hix, hf⟩ := zx_inv hf
  refine xg_110 hx hb hK hC hk_a2 hix dX7_endOf_11 ?_
  refine lv_iadd hx hb dX7_endOf_12 ?_
  exact z_iret hx hb hr hlocks hC hf dX7_endOf_13
def f_X7_meets (K : Nat → Nat) (z : Nat) (r : zS) (th : Nat) (p1 : Int32) (p2 : Int32) (p3 : Int32) (p4 : Int32) : Option Int32 :=
  zn K (zr r 28 th 0) 128 fun a1 => zx p2 200 <| (if (zi r 128 a1 (Int32.toNatClampNeg p2)) = p3 then zn K (zr r 29 th 0) 129 fun a2 => zx p2 200 <| zn K (zr r 10 th 0) 110 fun a3 => zx p1 200 <| (if (p4 + (zi r 110 a3 (Int32.toNatClampNeg p1))) ≤ (zi r 129 a2 (Int32.toNatClampNeg p2)) then some 0 else zb (f_X7_endOf K z r th p2) fun x5 => (if x5 ≤ p4 then some 0 else some 1)) else some 0)
set_option maxRecDepth 100000 in
set_option maxHeartbeats 4000000 in
theorem c_X7_meets {l : Launch} {D : va_G} {cy : Nat → ClassId} {base : Nat} {st : Nat → Nat} {K : Nat → Nat} {L : List Nat} {c r : zS} {o : Int64} {z : Nat} (th : Nat) (p1 : Int32) (p2 : Int32) (p3 : Int32) (p4 : Int32) {rv : Int32}  (hk_th : K th = 7) (hf : f_X7_meets K z r th p1 p2 p3 p4 = some rv) : Met l yX7_meets wsX7_meets ({ frames := 1, cells := 0, slots := 0, locals := 21 }) (va_Pc [.ref th, .int p1, .int p2, .int p3, .int p4] (zGW zts0 zns0 D cy base st K L (c, r, o))) (va_Qi (fun (rr : Int32) (_ : Unit) => rr = rv) (fun _ => zB D cy base K L (c, r, o)) (zA base)) 0 0 (zA base) := by
  refine Met.ofW (cc := cX7_meets) (maxL := 5) (ret := (some .boolean)) (by decide) rfl ?_
  intro p e s m args below meth cd s₁ B hml hv
  obtain ⟨rfl, hG⟩ := hv
  have hx := B.exec
  have hb := B.bytes
  have hr := B.returns
  have hts := atoms_spec (ws := wsX7_meets) B.pre
  have hown : s.vm.findClass RX7 = some m.cls := findClass_of_methodNamed B.named
  have hlocks := B.notSynchronized
  have hC := hG.enter
  have hK := hG.2.2.2.1
  have hi7 : ∀ w ∈ wsX70, w ∈ wsX7_meets := by decide +kernel
  have w0 := hts (.fieldLink RX7 90 "MarketSquareModel" "stallRow" "[I") (by decide +kernel)
  have w1 := hts (.fieldLink RX7 93 "MarketSquareModel" "stallPlace" "[I") (by decide +kernel)
  have w2 := hts (.fieldLink RX7 36 "MarketSquareModel" "front" "[I") (by decide +kernel)
  have hl := lv_entry ([.ref th, .int p1, .int p2, .int p3, .int p4]) (n := 5) (Nat.le_of_ble_eq_true rfl)
  rw [lg_entry_eq]
  generalize (lg_sl ([.ref th, .int p1, .int p2, .int p3, .int p4]) ++ List.replicate (5 - (lg_sl ([.ref th, .int p1, .int p2, .int p3, .int p4])).length) Slot.unset).toArray = ls at hl ⊢
  have hl : lv_has ls 5 [(0, .ref th), (1, .int p1), (2, .int p2), (3, .int p3), (4, .int p4)] := hl
  unfold f_X7_meets at hf
  refine lv_aload_n hx hb dX7_meets_0 rfl (lv_at hl 0 rfl) ?_
  refine zg_7_28 hx hb hts hi7 hown hK hC hk_th w0 dX7_meets_1 ?_
  obtain ⟨a1, ea1, hk_a1, hf⟩ := zn_inv hf
  refine z_ref ea1 ?_
  refine lv_iload_n hx hb dX7_meets_4 rfl (lv_at hl 2 rfl) ?_
  obtain ⟨hix, hf⟩ := zx_inv hf
  refine xg_128 hx hb hK hC hk_a1 hix dX7_meets_5 ?_
  refine lv_iload_n hx hb dX7_meets_6 rfl (lv_at hl 3 rfl) ?_
  refine lv_icmp_ne (tgt := 42) hx hb dX7_meets_7 (by decide) (fun h8 => ?_) (fun h8 => ?_)
  · have hf := zif_f hf h8
    refine lv_iconst (v := 0) hx hb dX7_meets_42 (by decide) ?_
    exact z_zret hx hb hr hlocks hC (Or.inl rfl) hf dX7_meets_43
  · have hf := zif_t hf h8
    refine lv_aload_n hx hb dX7_meets_10 rfl (lv_at hl 0 rfl) ?_
    refine zg_7_29 hx hb hts hi7 hown hK hC hk_th w1 dX7_meets_11 ?_
    obtain ⟨a2, ea2, hk_a2, hf⟩ := zn_inv hf
    refine z_ref ea2 ?_
    refine lv_iload_n hx hb dX7_meets_14 rfl (lv_at hl 2 rfl) ?_
    obtain ⟨hix, hf⟩ := zx_inv hf
    refine xg_129 hx hb hK hC hk_a2 hix dX7_meets_15 ?_
    refine lv_iload hx hb dX7_meets_16 (lv_at hl 4 rfl) ?_
    refine lv_aload_n hx hb dX7_meets_18 rfl (lv_at hl 0 rfl) ?_
    refine zg_7_10 hx hb hts hi7 hown hK hC hk_th w2 dX7_meets_19 ?_
    obtain ⟨a3, ea3, hk_a3, hf⟩ := zn_inv hf
    refine z_ref ea3 ?_
    refine lv_iload_n hx hb dX7_meets_22 rfl (lv_at hl 1 rfl) ?_
    obtain ⟨hix, hf⟩ := zx_inv hf
    refine xg_110 hx hb hK hC hk_a3 hix dX7_meets_23 ?_
    refine lv_iadd hx hb dX7_meets_24 ?_
    refine lv_icmp_ge (tgt := 42) hx hb dX7_meets_25 (by decide) (fun h7 => ?_) (fun h7 => ?_)
    · have hf := zif_t hf h7
      refine lv_iconst (v := 0) hx hb dX7_meets_42 (by decide) ?_
      exact z_zret hx hb hr hlocks hC (Or.inl rfl) hf dX7_meets_43
    · have hf := zif_f hf h7
      refine lv_aload_n hx hb dX7_meets_28 rfl (lv_at hl 0 rfl) ?_
      refine lv_iload_n hx hb dX7_meets_29 rfl (lv_at hl 2 rfl) ?_
      obtain ⟨x5, hc4, hf⟩ := zb_inv hf
      refine z_ci (z_rV (As := [.int p2]) (rest := []) ⟨hx, hb, hml, hown, hts⟩ (c_X7_endOf (l := l) (D := D) (cy := cy) (base := base) (st := st) (K := K) (L := L) (c := c) (r := r) (o := o) (z := z) th p2 hk_th hc4) (cwV 1 hts gX7_meets_X7_endOf rfl rfl rfl (by decide +kernel) ⟨Nat.le_of_ble_eq_true rfl, Nat.le_of_ble_eq_true rfl⟩) hG hC (zC.recv (ci := 7) (fs := _) hK hC (by rw [hk_th]; decide) (by rw [hk_th]; exact zc_7 cy _ _) rfl) rfl hl.1 rfl (lv_room (Nat.le_of_ble_eq_true rfl)) dX7_meets_30 ⟨Nat.le_of_ble_eq_true rfl, Nat.le_of_ble_eq_true rfl⟩) hC (fun H locs hC => ?_)
      refine lv_iload hx hb dX7_meets_33 (lv_at hl 4 rfl) ?_
      refine lv_icmp_le (tgt := 42) hx hb dX7_meets_35 (by decide) (fun h6 => ?_) (fun h6 => ?_)
      · have hf := zif_t hf h6
        refine lv_iconst (v := 0) hx hb dX7_meets_42 (by decide) ?_
        exact z_zret hx hb hr hlocks hC (Or.inl rfl) hf dX7_meets_43
      · have hf := zif_f hf h6
        refine lv_iconst (v := 1) hx hb dX7_meets_38 (by decide) ?_
        refine lv_goto (tgt := 43) hx hb dX7_meets_39 (by decide) ?_
        exact z_zret hx hb hr hlocks hC (Or.inr rfl) hf dX7_meets_43
def f_X7_arePaired (K : Nat → Nat) (z : Nat) (r : zS) (th : Nat) (p1 : Int32) (p2 : Int32) : Option Int32 :=
  zn K (zr r 6 th 0) 106 fun a1 => zn K (zr r 9 th 0) 109 fun a2 => zx p1 200 <| zx p2 200 <| zx ((20 * (zi r 109 a2 (Int32.toNatClampNeg p1))) + (zi r 109 a2 (Int32.toNatClampNeg p2))) 400 <| zz (zi r 106 a1 (Int32.toNatClampNeg ((20 * (zi r 109 a2 (Int32.toNatClampNeg p1))) + (zi r 109 a2 (Int32.toNatClampNeg p2))))) <| some (zi r 106 a1 (Int32.toNatClampNeg ((20 * (zi r 109 a2 (Int32.toNatClampNeg p1))) + (zi r 109 a2 (Int32.toNatClampNeg p2)))))
set_option maxRecDepth 100000 in
set_option maxHeartbeats 4000000 in
theorem c_X7_arePaired {l : Launch} {D : va_G} {cy : Nat → ClassId} {base : Nat} {st : Nat → Nat} {K : Nat → Nat} {L : List Nat} {c r : zS} {o : Int64} {z : Nat} (th : Nat) (p1 : Int32) (p2 : Int32) {rv : Int32}  (hk_th : K th = 7) (hf : f_X7_arePaired K z r th p1 p2 = some rv) : Met l yX7_arePaired wsX7_arePaired ({ frames := 0, cells := 0, slots := 0, locals := 0 }) (va_Pc [.ref th, .int p1, .int p2] (zGW zts0 zns0 D cy base st K L (c, r, o))) (va_Qi (fun (rr : Int32) (_ : Unit) => rr = rv) (fun _ => zB D cy base K L (c, r, o)) (zA base)) 0 0 (zA base) := by
  refine Met.ofW (cc := cX7_arePaired) (maxL := 3) (ret := (some .boolean)) (by decide) rfl ?_
  intro p e s m args below meth cd s₁ B hml hv
  obtain ⟨rfl, hG⟩ := hv
  have hx := B.exec
  have hb := B.bytes
  have hr := B.returns
  have hts := atoms_spec (ws := wsX7_arePaired) B.pre
  have hown : s.vm.findClass RX7 = some m.cls := findClass_of_methodNamed B.named
  have hlocks := B.notSynchronized
  have hC := hG.enter
  have hK := hG.2.2.2.1
  have hi7 : ∀ w ∈ wsX70, w ∈ wsX7_arePaired := by decide +kernel
  have w0 := hts (.fieldLink RX7 27 "MarketSquareModel" "paired" "[Z") (by decide +kernel)
  have w1 := hts (.fieldLink RX7 33 "MarketSquareModel" "trade" "[I") (by decide +kernel)
  have hl := lv_entry ([.ref th, .int p1, .int p2]) (n := 3) (Nat.le_of_ble_eq_true rfl)
  rw [lg_entry_eq]
  generalize (lg_sl ([.ref th, .int p1, .int p2]) ++ List.replicate (3 - (lg_sl ([.ref th, .int p1, .int p2])).length) Slot.unset).toArray = ls at hl ⊢
  have hl : lv_has ls 3 [(0, .ref th), (1, .int p1), (2, .int p2)] := hl
  unfold f_X7_arePaired at hf
  refine lv_aload_n hx hb dX7_arePaired_0 rfl (lv_at hl 0 rfl) ?_
  refine zg_7_6 hx hb hts hi7 hown hK hC hk_th w0 dX7_arePaired_1 ?_
  obtain ⟨a1, ea1, hk_a1, hf⟩ := zn_inv hf
  refine z_ref ea1 ?_
  refine lv_bipush (v := 20) hx hb dX7_arePaired_4 (by decide) ?_
  refine lv_aload_n hx hb dX7_arePaired_6 rfl (lv_at hl 0 rfl) ?_
  refine zg_7_9 hx hb hts hi7 hown hK hC hk_th w1 dX7_arePaired_7 ?_
  obtain ⟨a2, ea2, hk_a2, hf⟩ := zn_inv hf
  refine z_ref ea2 ?_
  refine lv_iload_n hx hb dX7_arePaired_10 rfl (lv_at hl 1 rfl) ?_
  obtain ⟨hix, hf⟩ := zx_inv hf
  refine xg_109 hx hb hK hC hk_a2 hix dX7_arePaired_11 ?_
  refine lv_imul hx hb dX7_arePaired_12 ?_
  refine lv_aload_n hx hb dX7_arePaired_13 rfl (lv_at hl 0 rfl) ?_
  refine zg_7_9 hx hb hts hi7 hown hK hC hk_th w1 dX7_arePaired_14 ?_
  refine z_ref ea2 ?_
  refine lv_iload_n hx hb dX7_arePaired_17 rfl (lv_at hl 2 rfl) ?_
  obtain ⟨hix, hf⟩ := zx_inv hf
  refine xg_109 hx hb hK hC hk_a2 hix dX7_arePaired_18 ?_
  refine lv_iadd hx hb dX7_arePaired_19 ?_
  obtain ⟨hix, hf⟩ := zx_inv hf
  refine xg_106 hx hb hK hC hk_a1 hix dX7_arePaired_20 ?_
  obtain ⟨hz3, hf⟩ := zz_inv hf
  exact z_zret hx hb hr hlocks hC hz3 hf dX7_arePaired_21
def f_X7_isBeside (K : Nat → Nat) (z : Nat) (r : zS) (th : Nat) (p1 : Int32) (p2 : Int32) (p3 : Int32) (p4 : Int32) : Option Int32 :=
  zn K (zr r 28 th 0) 128 fun a1 => zx p2 200 <| (if (zi r 128 a1 (Int32.toNatClampNeg p2)) = p3 then zb (f_X7_endOf K z r th p2) fun x3 => (if x3 = p4 then some 1 else zn K (zr r 29 th 0) 129 fun a4 => zx p2 200 <| zn K (zr r 10 th 0) 110 fun a5 => zx p1 200 <| (if (zi r 129 a4 (Int32.toNatClampNeg p2)) = (p4 + (zi r 110 a5 (Int32.toNatClampNeg p1))) then some 1 else some 0)) else some 0)
set_option maxRecDepth 100000 in
set_option maxHeartbeats 4000000 in
theorem c_X7_isBeside {l : Launch} {D : va_G} {cy : Nat → ClassId} {base : Nat} {st : Nat → Nat} {K : Nat → Nat} {L : List Nat} {c r : zS} {o : Int64} {z : Nat} (th : Nat) (p1 : Int32) (p2 : Int32) (p3 : Int32) (p4 : Int32) {rv : Int32}  (hk_th : K th = 7) (hf : f_X7_isBeside K z r th p1 p2 p3 p4 = some rv) : Met l yX7_isBeside wsX7_isBeside ({ frames := 1, cells := 0, slots := 0, locals := 21 }) (va_Pc [.ref th, .int p1, .int p2, .int p3, .int p4] (zGW zts0 zns0 D cy base st K L (c, r, o))) (va_Qi (fun (rr : Int32) (_ : Unit) => rr = rv) (fun _ => zB D cy base K L (c, r, o)) (zA base)) 0 0 (zA base) := by
  refine Met.ofW (cc := cX7_isBeside) (maxL := 5) (ret := (some .boolean)) (by decide) rfl ?_
  intro p e s m args below meth cd s₁ B hml hv
  obtain ⟨rfl, hG⟩ := hv
  have hx := B.exec
  have hb := B.bytes
  have hr := B.returns
  have hts := atoms_spec (ws := wsX7_isBeside) B.pre
  have hown : s.vm.findClass RX7 = some m.cls := findClass_of_methodNamed B.named
  have hlocks := B.notSynchronized
  have hC := hG.enter
  have hK := hG.2.2.2.1
  have hi7 : ∀ w ∈ wsX70, w ∈ wsX7_isBeside := by decide +kernel
  have w0 := hts (.fieldLink RX7 90 "MarketSquareModel" "stallRow" "[I") (by decide +kernel)
  have w1 := hts (.fieldLink RX7 93 "MarketSquareModel" "stallPlace" "[I") (by decide +kernel)
  have w2 := hts (.fieldLink RX7 36 "MarketSquareModel" "front" "[I") (by decide +kernel)
  have hl := lv_entry ([.ref th, .int p1, .int p2, .int p3, .int p4]) (n := 5) (Nat.le_of_ble_eq_true rfl)
  rw [lg_entry_eq]
  generalize (lg_sl ([.ref th, .int p1, .int p2, .int p3, .int p4]) ++ List.replicate (5 - (lg_sl ([.ref th, .int p1, .int p2, .int p3, .int p4])).length) Slot.unset).toArray = ls at hl ⊢
  have hl : lv_has ls 5 [(0, .ref th), (1, .int p1), (2, .int p2), (3, .int p3), (4, .int p4)] := hl
  unfold f_X7_isBeside at hf
  refine lv_aload_n hx hb dX7_isBeside_0 rfl (lv_at hl 0 rfl) ?_
  refine zg_7_28 hx hb hts hi7 hown hK hC hk_th w0 dX7_isBeside_1 ?_
  obtain ⟨a1, ea1, hk_a1, hf⟩ := zn_inv hf
  refine z_ref ea1 ?_
  refine lv_iload_n hx hb dX7_isBeside_4 rfl (lv_at hl 2 rfl) ?_
  obtain ⟨hix, hf⟩ := zx_inv hf
  refine xg_128 hx hb hK hC hk_a1 hix dX7_isBeside_5 ?_
  refine lv_iload_n hx hb dX7_isBeside_6 rfl (lv_at hl 3 rfl) ?_
  refine lv_icmp_ne (tgt := 42) hx hb dX7_isBeside_7 (by decide) (fun h8 => ?_) (fun h8 => ?_)
  · have hf := zif_f hf h8
    refine lv_iconst (v := 0) hx hb dX7_isBeside_42 (by decide) ?_
    exact z_zret hx hb hr hlocks hC (Or.inl rfl) hf dX7_isBeside_43
  · have hf := zif_t hf h8
    refine lv_aload_n hx hb dX7_isBeside_10 rfl (lv_at hl 0 rfl) ?_
    refine lv_iload_n hx hb dX7_isBeside_11 rfl (lv_at hl 2 rfl) ?_
    obtain ⟨x3, hc2, hf⟩ := zb_inv hf
    refine z_ci (z_rV (As := [.int p2]) (rest := []) ⟨hx, hb, hml, hown, hts⟩ (c_X7_endOf (l := l) (D := D) (cy := cy) (base := base) (st := st) (K := K) (L := L) (c := c) (r := r) (o := o) (z := z) th p2 hk_th hc2) (cwV 1 hts gX7_isBeside_X7_endOf rfl rfl rfl (by decide +kernel) ⟨Nat.le_of_ble_eq_true rfl, Nat.le_of_ble_eq_true rfl⟩) hG hC (zC.recv (ci := 7) (fs := _) hK hC (by rw [hk_th]; decide) (by rw [hk_th]; exact zc_7 cy _ _) rfl) rfl hl.1 rfl (lv_room (Nat.le_of_ble_eq_true rfl)) dX7_isBeside_12 ⟨Nat.le_of_ble_eq_true rfl, Nat.le_of_ble_eq_true rfl⟩) hC (fun H locs hC => ?_)
    refine lv_iload hx hb dX7_isBeside_15 (lv_at hl 4 rfl) ?_
    refine lv_icmp_eq (tgt := 38) hx hb dX7_isBeside_17 (by decide) (fun h7 => ?_) (fun h7 => ?_)
    · have hf := zif_t hf h7
      refine lv_iconst (v := 1) hx hb dX7_isBeside_38 (by decide) ?_
      refine lv_goto (tgt := 43) hx hb dX7_isBeside_39 (by decide) ?_
      exact z_zret hx hb hr hlocks hC (Or.inr rfl) hf dX7_isBeside_43
    · have hf := zif_f hf h7
      refine lv_aload_n hx hb dX7_isBeside_20 rfl (lv_at hl 0 rfl) ?_
      refine zg_7_29 hx hb hts hi7 hown hK hC hk_th w1 dX7_isBeside_21 ?_
      obtain ⟨a4, ea4, hk_a4, hf⟩ := zn_inv hf
      refine z_ref ea4 ?_
      refine lv_iload_n hx hb dX7_isBeside_24 rfl (lv_at hl 2 rfl) ?_
      obtain ⟨hix, hf⟩ := zx_inv hf
      refine xg_129 hx hb hK hC hk_a4 hix dX7_isBeside_25 ?_
      refine lv_iload hx hb dX7_isBeside_26 (lv_at hl 4 rfl) ?_
      refine lv_aload_n hx hb dX7_isBeside_28 rfl (lv_at hl 0 rfl) ?_
      refine zg_7_10 hx hb hts hi7 hown hK hC hk_th w2 dX7_isBeside_29 ?_
      obtain ⟨a5, ea5, hk_a5, hf⟩ := zn_inv hf
      refine z_ref ea5 ?_
      refine lv_iload_n hx hb dX7_isBeside_32 rfl (lv_at hl 1 rfl) ?_
      obtain ⟨hix, hf⟩ := zx_inv hf
      refine xg_110 hx hb hK hC hk_a5 hix dX7_isBeside_33 ?_
      refine lv_iadd hx hb dX7_isBeside_34 ?_
      refine lv_icmp_ne (tgt := 42) hx hb dX7_isBeside_35 (by decide) (fun h6 => ?_) (fun h6 => ?_)
      · have hf := zif_f hf h6
        refine lv_iconst (v := 0) hx hb dX7_isBeside_42 (by decide) ?_
        exact z_zret hx hb hr hlocks hC (Or.inl rfl) hf dX7_isBeside_43
      · have hf := zif_t hf h6
        refine lv_iconst (v := 1) hx hb dX7_isBeside_38 (by decide) ?_
        refine lv_goto (tgt := 43) hx hb dX7_isBeside_39 (by decide) ?_
        exact z_zret hx hb hr hlocks hC (Or.inr rfl) hf dX7_isBeside_43
def f_X7_isOpposite (K : Nat → Nat) (z : Nat) (r : zS) (th : Nat) (p1 : Int32) (p2 : Int32) (p3 : Int32) (p4 : Int32) : Option Int32 :=
  zn K (zr r 28 th 0) 128 fun a1 => zx p2 200 <| (if ((zi r 128 a1 (Int32.toNatClampNeg p2)) ^^^ 1) = p3 then zn K (zr r 29 th 0) 129 fun a2 => zx p2 200 <| zn K (zr r 10 th 0) 110 fun a3 => zx p1 200 <| (if (p4 + (zi r 110 a3 (Int32.toNatClampNeg p1))) ≤ (zi r 129 a2 (Int32.toNatClampNeg p2)) then some 0 else zb (f_X7_endOf K z r th p2) fun x5 => (if x5 ≤ p4 then some 0 else some 1)) else some 0)
set_option maxRecDepth 100000 in
set_option maxHeartbeats 4000000 in
theorem c_X7_isOpposite {l : Launch} {D : va_G} {cy : Nat → ClassId} {base : Nat} {st : Nat → Nat} {K : Nat → Nat} {L : List Nat} {c r : zS} {o : Int64} {z : Nat} (th : Nat) (p1 : Int32) (p2 : Int32) (p3 : Int32) (p4 : Int32) {rv : Int32}  (hk_th : K th = 7) (hf : f_X7_isOpposite K z r th p1 p2 p3 p4 = some rv) : Met l yX7_isOpposite wsX7_isOpposite ({ frames := 1, cells := 0, slots := 0, locals := 21 }) (va_Pc [.ref th, .int p1, .int p2, .int p3, .int p4] (zGW zts0 zns0 D cy base st K L (c, r, o))) (va_Qi (fun (rr : Int32) (_ : Unit) => rr = rv) (fun _ => zB D cy base K L (c, r, o)) (zA base)) 0 0 (zA base) := by
  refine Met.ofW (cc := cX7_isOpposite) (maxL := 5) (ret := (some .boolean)) (by decide) rfl ?_
  intro p e s m args below meth cd s₁ B hml hv
  obtain ⟨rfl, hG⟩ := hv
  have hx := B.exec
  have hb := B.bytes
  have hr := B.returns
  have hts := atoms_spec (ws := wsX7_isOpposite) B.pre
  have hown : s.vm.findClass RX7 = some m.cls := findClass_of_methodNamed B.named
  have hlocks := B.notSynchronized
  have hC := hG.enter
  have hK := hG.2.2.2.1
  have hi7 : ∀ w ∈ wsX70, w ∈ wsX7_isOpposite := by decide +kernel
  have w0 := hts (.fieldLink RX7 90 "MarketSquareModel" "stallRow" "[I") (by decide +kernel)
  have w1 := hts (.fieldLink RX7 93 "MarketSquareModel" "stallPlace" "[I") (by decide +kernel)
  have w2 := hts (.fieldLink RX7 36 "MarketSquareModel" "front" "[I") (by decide +kernel)
  have hl := lv_entry ([.ref th, .int p1, .int p2, .int p3, .int p4]) (n := 5) (Nat.le_of_ble_eq_true rfl)
  rw [lg_entry_eq]
  generalize (lg_sl ([.ref th, .int p1, .int p2, .int p3, .int p4]) ++ List.replicate (5 - (lg_sl ([.ref th, .int p1, .int p2, .int p3, .int p4])).length) Slot.unset).toArray = ls at hl ⊢
  have hl : lv_has ls 5 [(0, .ref th), (1, .int p1), (2, .int p2), (3, .int p3), (4, .int p4)] := hl
  unfold f_X7_isOpposite at hf
  refine lv_aload_n hx hb dX7_isOpposite_0 rfl (lv_at hl 0 rfl) ?_
  refine zg_7_28 hx hb hts hi7 hown hK hC hk_th w0 dX7_isOpposite_1 ?_
  obtain ⟨a1, ea1, hk_a1, hf⟩ := zn_inv hf
  refine z_ref ea1 ?_
  refine lv_iload_n hx hb dX7_isOpposite_4 rfl (lv_at hl 2 rfl) ?_
  obtain ⟨hix, hf⟩ := zx_inv hf
  refine xg_128 hx hb hK hC hk_a1 hix dX7_isOpposite_5 ?_
  refine lv_iconst (v := 1) hx hb dX7_isOpposite_6 (by decide) ?_
  refine lv_ixor hx hb dX7_isOpposite_7 ?_
  refine lv_iload_n hx hb dX7_isOpposite_8 rfl (lv_at hl 3 rfl) ?_
  refine lv_icmp_ne (tgt := 44) hx hb dX7_isOpposite_9 (by decide) (fun h8 => ?_) (fun h8 => ?_)
  · have hf := zif_f hf h8
    refine lv_iconst (v := 0) hx hb dX7_isOpposite_44 (by decide) ?_
    exact z_zret hx hb hr hlocks hC (Or.inl rfl) hf dX7_isOpposite_45
  · have hf := zif_t hf h8
    refine lv_aload_n hx hb dX7_isOpposite_12 rfl (lv_at hl 0 rfl) ?_
    refine zg_7_29 hx hb hts hi7 hown hK hC hk_th w1 dX7_isOpposite_13 ?_
    obtain ⟨a2, ea2, hk_a2, hf⟩ := zn_inv hf
    refine z_ref ea2 ?_
    refine lv_iload_n hx hb dX7_isOpposite_16 rfl (lv_at hl 2 rfl) ?_
    obtain ⟨hix, hf⟩ := zx_inv hf
    refine xg_129 hx hb hK hC hk_a2 hix dX7_isOpposite_17 ?_
    refine lv_iload hx hb dX7_isOpposite_18 (lv_at hl 4 rfl) ?_
    refine lv_aload_n hx hb dX7_isOpposite_20 rfl (lv_at hl 0 rfl) ?_
    refine zg_7_10 hx hb hts hi7 hown hK hC hk_th w2 dX7_isOpposite_21 ?_
    obtain ⟨a3, ea3, hk_a3, hf⟩ := zn_inv hf
    refine z_ref ea3 ?_
    refine lv_iload_n hx hb dX7_isOpposite_24 rfl (lv_at hl 1 rfl) ?_
    obtain ⟨hix, hf⟩ := zx_inv hf
    refine xg_110 hx hb hK hC hk_a3 hix dX7_isOpposite_25 ?_
    refine lv_iadd hx hb dX7_isOpposite_26 ?_
    refine lv_icmp_ge (tgt := 44) hx hb dX7_isOpposite_27 (by decide) (fun h7 => ?_) (fun h7 => ?_)
    · have hf := zif_t hf h7
      refine lv_iconst (v := 0) hx hb dX7_isOpposite_44 (by decide) ?_
      exact z_zret hx hb hr hlocks hC (Or.inl rfl) hf dX7_isOpposite_45
    · have hf := zif_f hf h7
      refine lv_aload_n hx hb dX7_isOpposite_30 rfl (lv_at hl 0 rfl) ?_
      refine lv_iload_n hx hb dX7_isOpposite_31 rfl (lv_at hl 2 rfl) ?_
      obtain ⟨x5, hc4, hf⟩ := zb_inv hf
      refine z_ci (z_rV (As := [.int p2]) (rest := []) ⟨hx, hb, hml, hown, hts⟩ (c_X7_endOf (l := l) (D := D) (cy := cy) (base := base) (st := st) (K := K) (L := L) (c := c) (r := r) (o := o) (z := z) th p2 hk_th hc4) (cwV 1 hts gX7_isOpposite_X7_endOf rfl rfl rfl (by decide +kernel) ⟨Nat.le_of_ble_eq_true rfl, Nat.le_of_ble_eq_true rfl⟩) hG hC (zC.recv (ci := 7) (fs := _) hK hC (by rw [hk_th]; decide) (by rw [hk_th]; exact zc_7 cy _ _) rfl) rfl hl.1 rfl (lv_room (Nat.le_of_ble_eq_true rfl)) dX7_isOpposite_32 ⟨Nat.le_of_ble_eq_true rfl, Nat.le_of_ble_eq_true rfl⟩) hC (fun H locs hC => ?_)
      refine lv_iload hx hb dX7_isOpposite_35 (lv_at hl 4 rfl) ?_
      refine lv_icmp_le (tgt := 44) hx hb dX7_isOpposite_37 (by decide) (fun h6 => ?_) (fun h6 => ?_)
      · have hf := zif_t hf h6
        refine lv_iconst (v := 0) hx hb dX7_isOpposite_44 (by decide) ?_
        exact z_zret hx hb hr hlocks hC (Or.inl rfl) hf dX7_isOpposite_45
      · have hf := zif_f hf h6
        refine lv_iconst (v := 1) hx hb dX7_isOpposite_40 (by decide) ?_
        refine lv_goto (tgt := 45) hx hb dX7_isOpposite_41 (by decide) ?_
        exact z_zret hx hb hr hlocks hC (Or.inr rfl) hf dX7_isOpposite_45
def f_X7_isNear_50 (K : Nat → Nat) (z : Nat) (r : zS) (th : Nat) (p1 : Int32) (p2 : Int32) (p3 : Int32) (p4 : Int32) (s0 : Int32) : Option Int32 :=
  (if 6 ≤ s0 then some 0 else some 1)
def f_X7_isNear (K : Nat → Nat) (z : Nat) (r : zS) (th : Nat) (p1 : Int32) (p2 : Int32) (p3 : Int32) (p4 : Int32) : Option Int32 :=
  zn K (zr r 28 th 0) 128 fun a1 => zx p2 200 <| (if (zi r 128 a1 (Int32.toNatClampNeg p2)) = p3 then zn K (zr r 29 th 0) 129 fun a2 => zx p2 200 <| (if (zi r 129 a2 (Int32.toNatClampNeg p2)) < p4 then zb (f_X7_endOf K z r th p2) fun x4 => f_X7_isNear_50 K z r th p1 p2 p3 p4 (p4 - x4) else zx p2 200 <| zn K (zr r 10 th 0) 110 fun a6 => zx p1 200 <| f_X7_isNear_50 K z r th p1 p2 p3 p4 (((zi r 129 a2 (Int32.toNatClampNeg p2)) - p4) - (zi r 110 a6 (Int32.toNatClampNeg p1)))) else some 0)
set_option maxRecDepth 100000 in
set_option maxHeartbeats 4000000 in
theorem c_X7_isNear {l : Launch} {D : va_G} {cy : Nat → ClassId} {base : Nat} {st : Nat → Nat} {K : Nat → Nat} {L : List Nat} {c r : zS} {o : Int64} {z : Nat} (th : Nat) (p1 : Int32) (p2 : Int32) (p3 : Int32) (p4 : Int32) {rv : Int32}  (hk_th : K th = 7) (hf : f_X7_isNear K z r th p1 p2 p3 p4 = some rv) : Met l yX7_isNear wsX7_isNear ({ frames := 1, cells := 0, slots := 0, locals := 21 }) (va_Pc [.ref th, .int p1, .int p2, .int p3, .int p4] (zGW zts0 zns0 D cy base st K L (c, r, o))) (va_Qi (fun (rr : Int32) (_ : Unit) => rr = rv) (fun _ => zB D cy base K L (c, r, o)) (zA base)) 0 0 (zA base) := by
  refine Met.ofW (cc := cX7_isNear) (maxL := 6) (ret := (some .boolean)) (by decide) rfl ?_
  intro p e s m args below meth cd s₁ B hml hv
  obtain ⟨rfl, hG⟩ := hv
  have hx := B.exec
  have hb := B.bytes
  have hr := B.returns
  have hts := atoms_spec (ws := wsX7_isNear) B.pre
  have hown : s.vm.findClass RX7 = some m.cls := findClass_of_methodNamed B.named
  have hlocks := B.notSynchronized
  have hC := hG.enter
  have hK := hG.2.2.2.1
  have hi7 : ∀ w ∈ wsX70, w ∈ wsX7_isNear := by decide +kernel
  have w0 := hts (.fieldLink RX7 90 "MarketSquareModel" "stallRow" "[I") (by decide +kernel)
  have w1 := hts (.fieldLink RX7 93 "MarketSquareModel" "stallPlace" "[I") (by decide +kernel)
  have w2 := hts (.fieldLink RX7 36 "MarketSquareModel" "front" "[I") (by decide +kernel)
  have hl := lv_entry ([.ref th, .int p1, .int p2, .int p3, .int p4]) (n := 6) (Nat.le_of_ble_eq_true rfl)
  rw [lg_entry_eq]
  generalize (lg_sl ([.ref th, .int p1, .int p2, .int p3, .int p4]) ++ List.replicate (6 - (lg_sl ([.ref th, .int p1, .int p2, .int p3, .int p4])).length) Slot.unset).toArray = ls at hl ⊢
  have hl : lv_has ls 6 [(0, .ref th), (1, .int p1), (2, .int p2), (3, .int p3), (4, .int p4)] := hl
  have J50 : ∀ (H : Heap) (locs : List Loc) (ls : Array Slot) (s0 : Int32), zC D cy base K L (c, r, o) s.heap H locs → lv_has ls 6 [(0, .ref th), (1, .int p1), (2, .int p2), (3, .int p3), (4, .int p4)] → f_X7_isNear_50 K z r th p1 p2 p3 p4 s0 = some rv → W p l e (headSpec wsX7_isNear ({ frames := 1, cells := 0, slots := 0, locals := 21 })).room s m ([.ref th, .int p1, .int p2, .int p3, .int p4] : List Value).toArray below meth cd H locs 0 0 (MQ below (va_Qi (fun (rr : Int32) (_ : Unit) => rr = rv) (fun _ => zB D cy base K L (c, r, o)) (zA base)) ([.ref th, .int p1, .int p2, .int p3, .int p4] : List Value).toArray s 0 0 (zA base)) (F0 m 50 ls [.int s0]) := by
    intro H locs ls s0 hC hl hf
    unfold f_X7_isNear_50 at hf
    refine lv_istore (lv' := [(5, .int s0), (0, .ref th), (1, .int p1), (2, .int p2), (3, .int p3), (4, .int p4)]) hx hb dX7_isNear_50 hl (by decide) rfl (fun ls hl => ?_)
    refine lv_iload hx hb dX7_isNear_52 (lv_at hl 0 rfl) ?_
    refine lv_bipush (v := 6) hx hb dX7_isNear_54 (by decide) ?_
    refine lv_icmp_ge (tgt := 63) hx hb dX7_isNear_56 (by decide) (fun h5 => ?_) (fun h5 => ?_)
    · have hf := zif_t hf h5
      refine lv_iconst (v := 0) hx hb dX7_isNear_63 (by decide) ?_
      exact z_zret hx hb hr hlocks hC (Or.inl rfl) hf dX7_isNear_64
    · have hf := zif_f hf h5
      refine lv_iconst (v := 1) hx hb dX7_isNear_59 (by decide) ?_
      refine lv_goto (tgt := 64) hx hb dX7_isNear_60 (by decide) ?_
      exact z_zret hx hb hr hlocks hC (Or.inr rfl) hf dX7_isNear_64
  unfold f_X7_isNear at hf
  refine lv_aload_n hx hb dX7_isNear_0 rfl (lv_at hl 0 rfl) ?_
  refine zg_7_28 hx hb hts hi7 hown hK hC hk_th w0 dX7_isNear_1 ?_
  obtain ⟨a1, ea1, hk_a1, hf⟩ := zn_inv hf
  refine z_ref ea1 ?_
  refine lv_iload_n hx hb dX7_isNear_4 rfl (lv_at hl 2 rfl) ?_
  obtain ⟨hix, hf⟩ := zx_inv hf
  refine xg_128 hx hb hK hC hk_a1 hix dX7_isNear_5 ?_
  refine lv_iload_n hx hb dX7_isNear_6 rfl (lv_at hl 3 rfl) ?_
  refine lv_icmp_eq (tgt := 12) hx hb dX7_isNear_7 (by decide) (fun h8 => ?_) (fun h8 => ?_)
  · have hf := zif_t hf h8
    refine lv_aload_n hx hb dX7_isNear_12 rfl (lv_at hl 0 rfl) ?_
    refine zg_7_29 hx hb hts hi7 hown hK hC hk_th w1 dX7_isNear_13 ?_
    obtain ⟨a2, ea2, hk_a2, hf⟩ := zn_inv hf
    refine z_ref ea2 ?_
    refine lv_iload_n hx hb dX7_isNear_16 rfl (lv_at hl 2 rfl) ?_
    obtain ⟨hix, hf⟩ := zx_inv hf
    refine xg_129 hx hb hK hC hk_a2 hix dX7_isNear_17 ?_
    refine lv_iload hx hb dX7_isNear_18 (lv_at hl 4 rfl) ?_
    refine lv_icmp_lt (tgt := 42) hx hb dX7_isNear_20 (by decide) (fun h7 => ?_) (fun h7 => ?_)
    · have hf := zif_t hf h7
      refine lv_iload hx hb dX7_isNear_42 (lv_at hl 4 rfl) ?_
      refine lv_aload_n hx hb dX7_isNear_44 rfl (lv_at hl 0 rfl) ?_
      refine lv_iload_n hx hb dX7_isNear_45 rfl (lv_at hl 2 rfl) ?_
      obtain ⟨x4, hc3, hf⟩ := zb_inv hf
      refine z_ci (z_rV (As := [.int p2]) (rest := [.int p4]) ⟨hx, hb, hml, hown, hts⟩ (c_X7_endOf (l := l) (D := D) (cy := cy) (base := base) (st := st) (K := K) (L := L) (c := c) (r := r) (o := o) (z := z) th p2 hk_th hc3) (cwV 1 hts gX7_isNear_X7_endOf rfl rfl rfl (by decide +kernel) ⟨Nat.le_of_ble_eq_true rfl, Nat.le_of_ble_eq_true rfl⟩) hG hC (zC.recv (ci := 7) (fs := _) hK hC (by rw [hk_th]; decide) (by rw [hk_th]; exact zc_7 cy _ _) rfl) rfl hl.1 rfl (lv_room (Nat.le_of_ble_eq_true rfl)) dX7_isNear_46 ⟨Nat.le_of_ble_eq_true rfl, Nat.le_of_ble_eq_true rfl⟩) hC (fun H locs hC => ?_)
      refine lv_isub hx hb dX7_isNear_49 ?_
      exact J50 _ _ _ (p4 - x4) hC (lv_sub hl [0, 1, 2, 3, 4] rfl) hf
    · have hf := zif_f hf h7
      refine lv_aload_n hx hb dX7_isNear_23 rfl (lv_at hl 0 rfl) ?_
      refine zg_7_29 hx hb hts hi7 hown hK hC hk_th w1 dX7_isNear_24 ?_
      refine z_ref ea2 ?_
      refine lv_iload_n hx hb dX7_isNear_27 rfl (lv_at hl 2 rfl) ?_
      obtain ⟨hix, hf⟩ := zx_inv hf
      refine xg_129 hx hb hK hC hk_a2 hix dX7_isNear_28 ?_
      refine lv_iload hx hb dX7_isNear_29 (lv_at hl 4 rfl) ?_
      refine lv_isub hx hb dX7_isNear_31 ?_
      refine lv_aload_n hx hb dX7_isNear_32 rfl (lv_at hl 0 rfl) ?_
      refine zg_7_10 hx hb hts hi7 hown hK hC hk_th w2 dX7_isNear_33 ?_
      obtain ⟨a6, ea6, hk_a6, hf⟩ := zn_inv hf
      refine z_ref ea6 ?_
      refine lv_iload_n hx hb dX7_isNear_36 rfl (lv_at hl 1 rfl) ?_
      obtain ⟨hix, hf⟩ := zx_inv hf
      refine xg_110 hx hb hK hC hk_a6 hix dX7_isNear_37 ?_
      refine lv_isub hx hb dX7_isNear_38 ?_
      refine lv_goto (tgt := 50) hx hb dX7_isNear_39 (by decide) ?_
      exact J50 _ _ _ (((zi r 129 a2 (Int32.toNatClampNeg p2)) - p4) - (zi r 110 a6 (Int32.toNatClampNeg p1))) hC (lv_sub hl [0, 1, 2, 3, 4] rfl) hf
  · have hf := zif_f hf h8
    refine lv_iconst (v := 0) hx hb dX7_isNear_10 (by decide) ?_
    exact z_zret hx hb hr hlocks hC (Or.inl rfl) hf dX7_isNear_11
def f_X7_isFire_82 (K : Nat → Nat) (z : Nat) (r : zS) (th : Nat) (p1 : Int32) (p2 : Int32) (p3 : Int32) (p4 : Int32) : Option Int32 :=
  zb (f_X7_isNear K z r th p1 p2 p3 p4) fun x4 => (if x4 = 0 then some 0 else some 1)
def f_X7_isFire_70 (K : Nat → Nat) (z : Nat) (r : zS) (th : Nat) (p1 : Int32) (p2 : Int32) (p3 : Int32) (p4 : Int32) (v5 : Int32) (s0 : Int32) : Option Int32 :=
  (if v5 = 0 then (if s0 = 0 then some 0 else f_X7_isFire_82 K z r th p1 p2 p3 p4) else f_X7_isFire_82 K z r th p1 p2 p3 p4)
def f_X7_isFire_69 (K : Nat → Nat) (z : Nat) (r : zS) (th : Nat) (p1 : Int32) (p2 : Int32) (p3 : Int32) (p4 : Int32) (v5 : Int32) : Option Int32 :=
  f_X7_isFire_70 K z r th p1 p2 p3 p4 v5 0
def f_X7_isFire_29 (K : Nat → Nat) (z : Nat) (r : zS) (th : Nat) (p1 : Int32) (p2 : Int32) (p3 : Int32) (p4 : Int32) (s0 : Int32) : Option Int32 :=
  zn K (zr r 8 th 0) 108 fun a2 => zx p1 200 <| (if (zi r 108 a2 (Int32.toNatClampNeg p1)) = 3 then f_X7_isFire_69 K z r th p1 p2 p3 p4 s0 else zn K (zr r 5 th 0) 105 fun a8 => zn K (zr r 9 th 0) 109 fun a9 => zx p1 200 <| zx (zi r 109 a9 (Int32.toNatClampNeg p1)) 20 <| (if (zi r 105 a8 (Int32.toNatClampNeg (zi r 109 a9 (Int32.toNatClampNeg p1)))) = 0 then f_X7_isFire_69 K z r th p1 p2 p3 p4 s0 else zx p2 200 <| (if (zi r 108 a2 (Int32.toNatClampNeg p2)) = 3 then f_X7_isFire_70 K z r th p1 p2 p3 p4 s0 1 else f_X7_isFire_69 K z r th p1 p2 p3 p4 s0)))
def f_X7_isFire_28 (K : Nat → Nat) (z : Nat) (r : zS) (th : Nat) (p1 : Int32) (p2 : Int32) (p3 : Int32) (p4 : Int32) : Option Int32 :=
  f_X7_isFire_29 K z r th p1 p2 p3 p4 0
def f_X7_isFire (K : Nat → Nat) (z : Nat) (r : zS) (th : Nat) (p1 : Int32) (p2 : Int32) (p3 : Int32) (p4 : Int32) : Option Int32 :=
  zn K (zr r 8 th 0) 108 fun a1 => zx p1 200 <| (if (zi r 108 a1 (Int32.toNatClampNeg p1)) = 3 then zn K (zr r 5 th 0) 105 fun a13 => zn K (zr r 9 th 0) 109 fun a14 => zx p2 200 <| zx (zi r 109 a14 (Int32.toNatClampNeg p2)) 20 <| (if (zi r 105 a13 (Int32.toNatClampNeg (zi r 109 a14 (Int32.toNatClampNeg p2)))) = 0 then f_X7_isFire_28 K z r th p1 p2 p3 p4 else f_X7_isFire_29 K z r th p1 p2 p3 p4 1) else f_X7_isFire_28 K z r th p1 p2 p3 p4)
set_option maxRecDepth 100000 in
set_option maxHeartbeats 4000000 in
theorem c_X7_isFire {l : Launch} {D : va_G} {cy : Nat → ClassId} {base : Nat} {st : Nat → Nat} {K : Nat → Nat} {L : List Nat} {c r : zS} {o : Int64} {z : Nat} (th : Nat) (p1 : Int32) (p2 : Int32) (p3 : Int32) (p4 : Int32) {rv : Int32}  (hk_th : K th = 7) (hf : f_X7_isFire K z r th p1 p2 p3 p4 = some rv) : Met l yX7_isFire wsX7_isFire ({ frames := 2, cells := 0, slots := 0, locals := 46 }) (va_Pc [.ref th, .int p1, .int p2, .int p3, .int p4] (zGW zts0 zns0 D cy base st K L (c, r, o))) (va_Qi (fun (rr : Int32) (_ : Unit) => rr = rv) (fun _ => zB D cy base K L (c, r, o)) (zA base)) 0 0 (zA base) := by
  refine Met.ofW (cc := cX7_isFire) (maxL := 7) (ret := (some .boolean)) (by decide) rfl ?_
  intro p e s m args below meth cd s₁ B hml hv
  obtain ⟨rfl, hG⟩ := hv
  have hx := B.exec
  have hb := B.bytes
  have hr := B.returns
  have hts := atoms_spec (ws := wsX7_isFire) B.pre
  have hown : s.vm.findClass RX7 = some m.cls := findClass_of_methodNamed B.named
  have hlocks := B.notSynchronized
  have hC := hG.enter
  have hK := hG.2.2.2.1
  have hi7 : ∀ w ∈ wsX70, w ∈ wsX7_isFire := by decide +kernel
  have w0 := hts (.fieldLink RX7 30 "MarketSquareModel" "kind" "[I") (by decide +kernel)
  have w1 := hts (.fieldLink RX7 23 "MarketSquareModel" "cloth" "[Z") (by decide +kernel)
  have w2 := hts (.fieldLink RX7 33 "MarketSquareModel" "trade" "[I") (by decide +kernel)
  have hl := lv_entry ([.ref th, .int p1, .int p2, .int p3, .int p4]) (n := 7) (Nat.le_of_ble_eq_true rfl)
  rw [lg_entry_eq]
  generalize (lg_sl ([.ref th, .int p1, .int p2, .int p3, .int p4]) ++ List.replicate (7 - (lg_sl ([.ref th, .int p1, .int p2, .int p3, .int p4])).length) Slot.unset).toArray = ls at hl ⊢
  have hl : lv_has ls 7 [(0, .ref th), (1, .int p1), (2, .int p2), (3, .int p3), (4, .int p4)] := hl
  have J82 : ∀ (H : Heap) (locs : List Loc) (ls : Array Slot), zC D cy base K L (c, r, o) s.heap H locs → lv_has ls 7 [(0, .ref th), (1, .int p1), (2, .int p2), (3, .int p3), (4, .int p4)] → f_X7_isFire_82 K z r th p1 p2 p3 p4 = some rv → W p l e (headSpec wsX7_isFire ({ frames := 2, cells := 0, slots := 0, locals := 46 })).room s m ([.ref th, .int p1, .int p2, .int p3, .int p4] : List Value).toArray below meth cd H locs 0 0 (MQ below (va_Qi (fun (rr : Int32) (_ : Unit) => rr = rv) (fun _ => zB D cy base K L (c, r, o)) (zA base)) ([.ref th, .int p1, .int p2, .int p3, .int p4] : List Value).toArray s 0 0 (zA base)) (F0 m 82 ls []) := by
    intro H locs ls hC hl hf
    unfold f_X7_isFire_82 at hf
    refine lv_aload_n hx hb dX7_isFire_82 rfl (lv_at hl 0 rfl) ?_
    refine lv_iload_n hx hb dX7_isFire_83 rfl (lv_at hl 1 rfl) ?_
    refine lv_iload_n hx hb dX7_isFire_84 rfl (lv_at hl 2 rfl) ?_
    refine lv_iload_n hx hb dX7_isFire_85 rfl (lv_at hl 3 rfl) ?_
    refine lv_iload hx hb dX7_isFire_86 (lv_at hl 4 rfl) ?_
    obtain ⟨x4, hc3, hf⟩ := zb_inv hf
    refine z_ci (z_rV (As := [.int p1, .int p2, .int p3, .int p4]) (rest := []) ⟨hx, hb, hml, hown, hts⟩ (c_X7_isNear (l := l) (D := D) (cy := cy) (base := base) (st := st) (K := K) (L := L) (c := c) (r := r) (o := o) (z := z) th p1 p2 p3 p4 hk_th hc3) (cwV 4 hts gX7_isFire_X7_isNear rfl rfl rfl (by decide +kernel) ⟨Nat.le_of_ble_eq_true rfl, Nat.le_of_ble_eq_true rfl⟩) hG hC (zC.recv (ci := 7) (fs := _) hK hC (by rw [hk_th]; decide) (by rw [hk_th]; exact zc_7 cy _ _) rfl) rfl hl.1 rfl (lv_room (Nat.le_of_ble_eq_true rfl)) dX7_isFire_88 ⟨Nat.le_of_ble_eq_true rfl, Nat.le_of_ble_eq_true rfl⟩) hC (fun H locs hC => ?_)
    refine lv_if_eq (tgt := 98) hx hb dX7_isFire_91 (by decide) (fun h5 => ?_) (fun h5 => ?_)
    · have hf := zif_t hf h5
      refine lv_iconst (v := 0) hx hb dX7_isFire_98 (by decide) ?_
      exact z_zret hx hb hr hlocks hC (Or.inl rfl) hf dX7_isFire_99
    · have hf := zif_f hf h5
      refine lv_iconst (v := 1) hx hb dX7_isFire_94 (by decide) ?_
      refine lv_goto (tgt := 99) hx hb dX7_isFire_95 (by decide) ?_
      exact z_zret hx hb hr hlocks hC (Or.inr rfl) hf dX7_isFire_99
  have J70 : ∀ (H : Heap) (locs : List Loc) (ls : Array Slot) (v5 : Int32) (s0 : Int32), zC D cy base K L (c, r, o) s.heap H locs → lv_has ls 7 [(0, .ref th), (1, .int p1), (2, .int p2), (3, .int p3), (4, .int p4), (5, .int v5)] → f_X7_isFire_70 K z r th p1 p2 p3 p4 v5 s0 = some rv → W p l e (headSpec wsX7_isFire ({ frames := 2, cells := 0, slots := 0, locals := 46 })).room s m ([.ref th, .int p1, .int p2, .int p3, .int p4] : List Value).toArray below meth cd H locs 0 0 (MQ below (va_Qi (fun (rr : Int32) (_ : Unit) => rr = rv) (fun _ => zB D cy base K L (c, r, o)) (zA base)) ([.ref th, .int p1, .int p2, .int p3, .int p4] : List Value).toArray s 0 0 (zA base)) (F0 m 70 ls [.int s0]) := by
    intro H locs ls v5 s0 hC hl hf
    unfold f_X7_isFire_70 at hf
    refine lv_istore (lv' := [(6, .int s0), (0, .ref th), (1, .int p1), (2, .int p2), (3, .int p3), (4, .int p4), (5, .int v5)]) hx hb dX7_isFire_70 hl (by decide) rfl (fun ls hl => ?_)
    refine lv_iload hx hb dX7_isFire_72 (lv_at hl 6 rfl) ?_
    refine lv_if_ne (tgt := 82) hx hb dX7_isFire_74 (by decide) (fun h7 => ?_) (fun h7 => ?_)
    · have hf := zif_f hf h7
      exact J82 _ _ _ hC (lv_sub hl [1, 2, 3, 4, 5] rfl) hf
    · have hf := zif_t hf h7
      refine lv_iload hx hb dX7_isFire_77 (lv_at hl 0 rfl) ?_
      refine lv_if_eq (tgt := 98) hx hb dX7_isFire_79 (by decide) (fun h6 => ?_) (fun h6 => ?_)
      · have hf := zif_t hf h6
        refine lv_iconst (v := 0) hx hb dX7_isFire_98 (by decide) ?_
        exact z_zret hx hb hr hlocks hC (Or.inl rfl) hf dX7_isFire_99
      · have hf := zif_f hf h6
        exact J82 _ _ _ hC (lv_sub hl [1, 2, 3, 4, 5] rfl) hf
  have J69 : ∀ (H : Heap) (locs : List Loc) (ls : Array Slot) (v5 : Int32), zC D cy base K L (c, r, o) s.heap H locs → lv_has ls 7 [(0, .ref th), (1, .int p1), (2, .int p2), (3, .int p3), (4, .int p4), (5, .int v5)] → f_X7_isFire_69 K z r th p1 p2 p3 p4 v5 = some rv → W p l e (headSpec wsX7_isFire ({ frames := 2, cells := 0, slots := 0, locals := 46 })).room s m ([.ref th, .int p1, .int p2, .int p3, .int p4] : List Value).toArray below meth cd H locs 0 0 (MQ below (va_Qi (fun (rr : Int32) (_ : Unit) => rr = rv) (fun _ => zB D cy base K L (c, r, o)) (zA base)) ([.ref th, .int p1, .int p2, .int p3, .int p4] : List Value).toArray s 0 0 (zA base)) (F0 m 69 ls []) := by
    intro H locs ls v5 hC hl hf
    unfold f_X7_isFire_69 at hf
    refine lv_iconst (v := 0) hx hb dX7_isFire_69 (by decide) ?_
    exact J70 _ _ _ v5 0 hC (lv_sub hl [0, 1, 2, 3, 4, 5] rfl) hf
  have J29 : ∀ (H : Heap) (locs : List Loc) (ls : Array Slot) (s0 : Int32), zC D cy base K L (c, r, o) s.heap H locs → lv_has ls 7 [(0, .ref th), (1, .int p1), (2, .int p2), (3, .int p3), (4, .int p4)] → f_X7_isFire_29 K z r th p1 p2 p3 p4 s0 = some rv → W p l e (headSpec wsX7_isFire ({ frames := 2, cells := 0, slots := 0, locals := 46 })).room s m ([.ref th, .int p1, .int p2, .int p3, .int p4] : List Value).toArray below meth cd H locs 0 0 (MQ below (va_Qi (fun (rr : Int32) (_ : Unit) => rr = rv) (fun _ => zB D cy base K L (c, r, o)) (zA base)) ([.ref th, .int p1, .int p2, .int p3, .int p4] : List Value).toArray s 0 0 (zA base)) (F0 m 29 ls [.int s0]) := by
    intro H locs ls s0 hC hl hf
    unfold f_X7_isFire_29 at hf
    refine lv_istore (lv' := [(5, .int s0), (0, .ref th), (1, .int p1), (2, .int p2), (3, .int p3), (4, .int p4)]) hx hb dX7_isFire_29 hl (by decide) rfl (fun ls hl => ?_)
    refine lv_aload_n hx hb dX7_isFire_31 rfl (lv_at hl 1 rfl) ?_
    refine zg_7_8 hx hb hts hi7 hown hK hC hk_th w0 dX7_isFire_32 ?_
    obtain ⟨a2, ea2, hk_a2, hf⟩ := zn_inv hf
    refine z_ref ea2 ?_
    refine lv_iload_n hx hb dX7_isFire_35 rfl (lv_at hl 2 rfl) ?_
    obtain ⟨hix, hf⟩ := zx_inv hf
    refine xg_108 hx hb hK hC hk_a2 hix dX7_isFire_36 ?_
    refine lv_iconst (v := 3) hx hb dX7_isFire_37 (by decide) ?_
    refine lv_icmp_eq (tgt := 69) hx hb dX7_isFire_38 (by decide) (fun h12 => ?_) (fun h12 => ?_)
    · have hf := zif_t hf h12
      exact J69 _ _ _ s0 hC (lv_sub hl [1, 2, 3, 4, 5, 0] rfl) hf
    · have hf := zif_f hf h12
      refine lv_aload_n hx hb dX7_isFire_41 rfl (lv_at hl 1 rfl) ?_
      refine zg_7_5 hx hb hts hi7 hown hK hC hk_th w1 dX7_isFire_42 ?_
      obtain ⟨a8, ea8, hk_a8, hf⟩ := zn_inv hf
      refine z_ref ea8 ?_
      refine lv_aload_n hx hb dX7_isFire_45 rfl (lv_at hl 1 rfl) ?_
      refine zg_7_9 hx hb hts hi7 hown hK hC hk_th w2 dX7_isFire_46 ?_
      obtain ⟨a9, ea9, hk_a9, hf⟩ := zn_inv hf
      refine z_ref ea9 ?_
      refine lv_iload_n hx hb dX7_isFire_49 rfl (lv_at hl 2 rfl) ?_
      obtain ⟨hix, hf⟩ := zx_inv hf
      refine xg_109 hx hb hK hC hk_a9 hix dX7_isFire_50 ?_
      obtain ⟨hix, hf⟩ := zx_inv hf
      refine xg_105 hx hb hK hC hk_a8 hix dX7_isFire_51 ?_
      refine lv_if_eq (tgt := 69) hx hb dX7_isFire_52 (by decide) (fun h11 => ?_) (fun h11 => ?_)
      · have hf := zif_t hf h11
        exact J69 _ _ _ s0 hC (lv_sub hl [1, 2, 3, 4, 5, 0] rfl) hf
      · have hf := zif_f hf h11
        refine lv_aload_n hx hb dX7_isFire_55 rfl (lv_at hl 1 rfl) ?_
        refine zg_7_8 hx hb hts hi7 hown hK hC hk_th w0 dX7_isFire_56 ?_
        refine z_ref ea2 ?_
        refine lv_iload_n hx hb dX7_isFire_59 rfl (lv_at hl 3 rfl) ?_
        obtain ⟨hix, hf⟩ := zx_inv hf
        refine xg_108 hx hb hK hC hk_a2 hix dX7_isFire_60 ?_
        refine lv_iconst (v := 3) hx hb dX7_isFire_61 (by decide) ?_
        refine lv_icmp_ne (tgt := 69) hx hb dX7_isFire_62 (by decide) (fun h10 => ?_) (fun h10 => ?_)
        · have hf := zif_f hf h10
          exact J69 _ _ _ s0 hC (lv_sub hl [1, 2, 3, 4, 5, 0] rfl) hf
        · have hf := zif_t hf h10
          refine lv_iconst (v := 1) hx hb dX7_isFire_65 (by decide) ?_
          refine lv_goto (tgt := 70) hx hb dX7_isFire_66 (by decide) ?_
          exact J70 _ _ _ s0 1 hC (lv_sub hl [1, 2, 3, 4, 5, 0] rfl) hf
  have J28 : ∀ (H : Heap) (locs : List Loc) (ls : Array Slot), zC D cy base K L (c, r, o) s.heap H locs → lv_has ls 7 [(0, .ref th), (1, .int p1), (2, .int p2), (3, .int p3), (4, .int p4)] → f_X7_isFire_28 K z r th p1 p2 p3 p4 = some rv → W p l e (headSpec wsX7_isFire ({ frames := 2, cells := 0, slots := 0, locals := 46 })).room s m ([.ref th, .int p1, .int p2, .int p3, .int p4] : List Value).toArray below meth cd H locs 0 0 (MQ below (va_Qi (fun (rr : Int32) (_ : Unit) => rr = rv) (fun _ => zB D cy base K L (c, r, o)) (zA base)) ([.ref th, .int p1, .int p2, .int p3, .int p4] : List Value).toArray s 0 0 (zA base)) (F0 m 28 ls []) := by
    intro H locs ls hC hl hf
    unfold f_X7_isFire_28 at hf
    refine lv_iconst (v := 0) hx hb dX7_isFire_28 (by decide) ?_
    exact J29 _ _ _ 0 hC (lv_sub hl [0, 1, 2, 3, 4] rfl) hf
  unfold f_X7_isFire at hf
  refine lv_aload_n hx hb dX7_isFire_0 rfl (lv_at hl 0 rfl) ?_
  refine zg_7_8 hx hb hts hi7 hown hK hC hk_th w0 dX7_isFire_1 ?_
  obtain ⟨a1, ea1, hk_a1, hf⟩ := zn_inv hf
  refine z_ref ea1 ?_
  refine lv_iload_n hx hb dX7_isFire_4 rfl (lv_at hl 1 rfl) ?_
  obtain ⟨hix, hf⟩ := zx_inv hf
  refine xg_108 hx hb hK hC hk_a1 hix dX7_isFire_5 ?_
  refine lv_iconst (v := 3) hx hb dX7_isFire_6 (by decide) ?_
  refine lv_icmp_ne (tgt := 28) hx hb dX7_isFire_7 (by decide) (fun h16 => ?_) (fun h16 => ?_)
  · have hf := zif_f hf h16
    exact J28 _ _ _ hC (lv_sub hl [0, 1, 2, 3, 4] rfl) hf
  · have hf := zif_t hf h16
    refine lv_aload_n hx hb dX7_isFire_10 rfl (lv_at hl 0 rfl) ?_
    refine zg_7_5 hx hb hts hi7 hown hK hC hk_th w1 dX7_isFire_11 ?_
    obtain ⟨a13, ea13, hk_a13, hf⟩ := zn_inv hf
    refine z_ref ea13 ?_
    refine lv_aload_n hx hb dX7_isFire_14 rfl (lv_at hl 0 rfl) ?_
    refine zg_7_9 hx hb hts hi7 hown hK hC hk_th w2 dX7_isFire_15 ?_
    obtain ⟨a14, ea14, hk_a14, hf⟩ := zn_inv hf
    refine z_ref ea14 ?_
    refine lv_iload_n hx hb dX7_isFire_18 rfl (lv_at hl 2 rfl) ?_
    obtain ⟨hix, hf⟩ := zx_inv hf
    refine xg_109 hx hb hK hC hk_a14 hix dX7_isFire_19 ?_
    obtain ⟨hix, hf⟩ := zx_inv hf
    refine xg_105 hx hb hK hC hk_a13 hix dX7_isFire_20 ?_
    refine lv_if_eq (tgt := 28) hx hb dX7_isFire_21 (by decide) (fun h15 => ?_) (fun h15 => ?_)
    · have hf := zif_t hf h15
      exact J28 _ _ _ hC (lv_sub hl [0, 1, 2, 3, 4] rfl) hf
    · have hf := zif_f hf h15
      refine lv_iconst (v := 1) hx hb dX7_isFire_24 (by decide) ?_
      refine lv_goto (tgt := 29) hx hb dX7_isFire_25 (by decide) ?_
      exact J29 _ _ _ 1 hC (lv_sub hl [0, 1, 2, 3, 4] rfl) hf
def f_X7_stops (K : Nat → Nat) (z : Nat) (r : zS) (th : Nat) (p1 : Int32) (p2 : Int32) (p3 : Int32) (p4 : Int32) (p5 : Int32) : Option Int32 :=
  (if p5 = 3 then zb (f_X7_meets K z r th p1 p2 p3 p4) fun x3 => zz x3 <| some x3 else (if p5 = 4 then some 0 else (if p5 = 5 then zb (f_X7_arePaired K z r th p1 p2) fun x8 => (if x8 = 0 then some 0 else zb (f_X7_isBeside K z r th p1 p2 p3 p4) fun x10 => (if x10 = 0 then some 0 else some 1)) else (if p5 = 6 then zb (f_X7_arePaired K z r th p1 p2) fun x15 => (if x15 = 0 then some 0 else zb (f_X7_isOpposite K z r th p1 p2 p3 p4) fun x17 => (if x17 = 0 then some 0 else some 1)) else (if p5 = 7 then some 0 else (if p5 = 8 then zb (f_X7_isFire K z r th p1 p2 p3 p4) fun x23 => zz x23 <| some x23 else (if p5 = 9 then some 0 else (if p5 = 10 then zn K (zr r 8 th 0) 108 fun a27 => zx p1 200 <| (if (zi r 108 a27 (Int32.toNatClampNeg p1)) = 4 then zx p2 200 <| (if (zi r 108 a27 (Int32.toNatClampNeg p2)) = 4 then some 1 else some 0) else some 0) else some 0))))))))
set_option maxRecDepth 100000 in
set_option maxHeartbeats 4000000 in
theorem c_X7_stops {l : Launch} {D : va_G} {cy : Nat → ClassId} {base : Nat} {st : Nat → Nat} {K : Nat → Nat} {L : List Nat} {c r : zS} {o : Int64} {z : Nat} (th : Nat) (p1 : Int32) (p2 : Int32) (p3 : Int32) (p4 : Int32) (p5 : Int32) {rv : Int32}  (hk_th : K th = 7) (hf : f_X7_stops K z r th p1 p2 p3 p4 p5 = some rv) : Met l yX7_stops wsX7_stops ({ frames := 3, cells := 0, slots := 0, locals := 72 }) (va_Pc [.ref th, .int p1, .int p2, .int p3, .int p4, .int p5] (zGW zts0 zns0 D cy base st K L (c, r, o))) (va_Qi (fun (rr : Int32) (_ : Unit) => rr = rv) (fun _ => zB D cy base K L (c, r, o)) (zA base)) 0 0 (zA base) := by
  refine Met.ofW (cc := cX7_stops) (maxL := 6) (ret := (some .boolean)) (by decide) rfl ?_
  intro p e s m args below meth cd s₁ B hml hv
  obtain ⟨rfl, hG⟩ := hv
  have hx := B.exec
  have hb := B.bytes
  have hr := B.returns
  have hts := atoms_spec (ws := wsX7_stops) B.pre
  have hown : s.vm.findClass RX7 = some m.cls := findClass_of_methodNamed B.named
  have hlocks := B.notSynchronized
  have hC := hG.enter
  have hK := hG.2.2.2.1
  have hi7 : ∀ w ∈ wsX70, w ∈ wsX7_stops := by decide +kernel
  have w0 := hts (.fieldLink RX7 30 "MarketSquareModel" "kind" "[I") (by decide +kernel)
  have hl := lv_entry ([.ref th, .int p1, .int p2, .int p3, .int p4, .int p5]) (n := 6) (Nat.le_of_ble_eq_true rfl)
  rw [lg_entry_eq]
  generalize (lg_sl ([.ref th, .int p1, .int p2, .int p3, .int p4, .int p5]) ++ List.replicate (6 - (lg_sl ([.ref th, .int p1, .int p2, .int p3, .int p4, .int p5])).length) Slot.unset).toArray = ls at hl ⊢
  have hl : lv_has ls 6 [(0, .ref th), (1, .int p1), (2, .int p2), (3, .int p3), (4, .int p4), (5, .int p5)] := hl
  unfold f_X7_stops at hf
  refine lv_iload hx hb dX7_stops_0 (lv_at hl 5 rfl) ?_
  by_cases h1 : p5 = 3
  · have hf := zif_t hf h1
    refine z_name h1.symm ?_
    refine lv_tableIn (off := 46) (tgt := 48) hx hb dX7_stops_2 (by decide) (by decide) (by decide) (by decide) ?_
    refine lv_aload_n hx hb dX7_stops_48 rfl (lv_at hl 0 rfl) ?_
    refine lv_iload_n hx hb dX7_stops_49 rfl (lv_at hl 1 rfl) ?_
    refine lv_iload_n hx hb dX7_stops_50 rfl (lv_at hl 2 rfl) ?_
    refine lv_iload_n hx hb dX7_stops_51 rfl (lv_at hl 3 rfl) ?_
    refine lv_iload hx hb dX7_stops_52 (lv_at hl 4 rfl) ?_
    obtain ⟨x3, hc2, hf⟩ := zb_inv hf
    refine z_ci (z_rV (As := [.int p1, .int p2, .int p3, .int p4]) (rest := []) ⟨hx, hb, hml, hown, hts⟩ (c_X7_meets (l := l) (D := D) (cy := cy) (base := base) (st := st) (K := K) (L := L) (c := c) (r := r) (o := o) (z := z) th p1 p2 p3 p4 hk_th hc2) (cwV 4 hts gX7_stops_X7_meets rfl rfl rfl (by decide +kernel) ⟨Nat.le_of_ble_eq_true rfl, Nat.le_of_ble_eq_true rfl⟩) hG hC (zC.recv (ci := 7) (fs := _) hK hC (by rw [hk_th]; decide) (by rw [hk_th]; exact zc_7 cy _ _) rfl) rfl hl.1 rfl (lv_room (Nat.le_of_ble_eq_true rfl)) dX7_stops_54 ⟨Nat.le_of_ble_eq_true rfl, Nat.le_of_ble_eq_true rfl⟩) hC (fun H locs hC => ?_)
    obtain ⟨hz4, hf⟩ := zz_inv hf
    exact z_zret hx hb hr hlocks hC hz4 hf dX7_stops_57
  have hf := zif_f hf h1
  by_cases h5 : p5 = 4
  · have hf := zif_t hf h5
    refine z_name h5.symm ?_
    refine lv_tableIn (off := 146) (tgt := 148) hx hb dX7_stops_2 (by decide) (by decide) (by decide) (by decide) ?_
    refine lv_iconst (v := 0) hx hb dX7_stops_148 (by decide) ?_
    exact z_zret hx hb hr hlocks hC (Or.inl rfl) hf dX7_stops_149
  have hf := zif_f hf h5
  by_cases h6 : p5 = 5
  · have hf := zif_t hf h6
    refine z_name h6.symm ?_
    refine lv_tableIn (off := 56) (tgt := 58) hx hb dX7_stops_2 (by decide) (by decide) (by decide) (by decide) ?_
    refine lv_aload_n hx hb dX7_stops_58 rfl (lv_at hl 0 rfl) ?_
    refine lv_iload_n hx hb dX7_stops_59 rfl (lv_at hl 1 rfl) ?_
    refine lv_iload_n hx hb dX7_stops_60 rfl (lv_at hl 2 rfl) ?_
    obtain ⟨x8, hc7, hf⟩ := zb_inv hf
    refine z_ci (z_rV (As := [.int p1, .int p2]) (rest := []) ⟨hx, hb, hml, hown, hts⟩ (c_X7_arePaired (l := l) (D := D) (cy := cy) (base := base) (st := st) (K := K) (L := L) (c := c) (r := r) (o := o) (z := z) th p1 p2 hk_th hc7) (cwV 2 hts gX7_stops_X7_arePaired rfl rfl rfl (by decide +kernel) ⟨Nat.le_of_ble_eq_true rfl, Nat.le_of_ble_eq_true rfl⟩) hG hC (zC.recv (ci := 7) (fs := _) hK hC (by rw [hk_th]; decide) (by rw [hk_th]; exact zc_7 cy _ _) rfl) rfl hl.1 rfl (lv_room (Nat.le_of_ble_eq_true rfl)) dX7_stops_61 ⟨Nat.le_of_ble_eq_true rfl, Nat.le_of_ble_eq_true rfl⟩) hC (fun H locs hC => ?_)
    refine lv_if_eq (tgt := 83) hx hb dX7_stops_64 (by decide) (fun h12 => ?_) (fun h12 => ?_)
    · have hf := zif_t hf h12
      refine lv_iconst (v := 0) hx hb dX7_stops_83 (by decide) ?_
      exact z_zret hx hb hr hlocks hC (Or.inl rfl) hf dX7_stops_84
    · have hf := zif_f hf h12
      refine lv_aload_n hx hb dX7_stops_67 rfl (lv_at hl 0 rfl) ?_
      refine lv_iload_n hx hb dX7_stops_68 rfl (lv_at hl 1 rfl) ?_
      refine lv_iload_n hx hb dX7_stops_69 rfl (lv_at hl 2 rfl) ?_
      refine lv_iload_n hx hb dX7_stops_70 rfl (lv_at hl 3 rfl) ?_
      refine lv_iload hx hb dX7_stops_71 (lv_at hl 4 rfl) ?_
      obtain ⟨x10, hc9, hf⟩ := zb_inv hf
      refine z_ci (z_rV (As := [.int p1, .int p2, .int p3, .int p4]) (rest := []) ⟨hx, hb, hml, hown, hts⟩ (c_X7_isBeside (l := l) (D := D) (cy := cy) (base := base) (st := st) (K := K) (L := L) (c := c) (r := r) (o := o) (z := z) th p1 p2 p3 p4 hk_th hc9) (cwV 4 hts gX7_stops_X7_isBeside rfl rfl rfl (by decide +kernel) ⟨Nat.le_of_ble_eq_true rfl, Nat.le_of_ble_eq_true rfl⟩) hG hC (zC.recv (ci := 7) (fs := _) hK hC (by rw [hk_th]; decide) (by rw [hk_th]; exact zc_7 cy _ _) rfl) rfl hl.1 rfl (lv_room (Nat.le_of_ble_eq_true rfl)) dX7_stops_73 ⟨Nat.le_of_ble_eq_true rfl, Nat.le_of_ble_eq_true rfl⟩) hC (fun H locs hC => ?_)
      refine lv_if_eq (tgt := 83) hx hb dX7_stops_76 (by decide) (fun h11 => ?_) (fun h11 => ?_)
      · have hf := zif_t hf h11
        refine lv_iconst (v := 0) hx hb dX7_stops_83 (by decide) ?_
        exact z_zret hx hb hr hlocks hC (Or.inl rfl) hf dX7_stops_84
      · have hf := zif_f hf h11
        refine lv_iconst (v := 1) hx hb dX7_stops_79 (by decide) ?_
        refine lv_goto (tgt := 84) hx hb dX7_stops_80 (by decide) ?_
        exact z_zret hx hb hr hlocks hC (Or.inr rfl) hf dX7_stops_84
  have hf := zif_f hf h6
  by_cases h13 : p5 = 6
  · have hf := zif_t hf h13
    refine z_name h13.symm ?_
    refine lv_tableIn (off := 83) (tgt := 85) hx hb dX7_stops_2 (by decide) (by decide) (by decide) (by decide) ?_
    refine lv_aload_n hx hb dX7_stops_85 rfl (lv_at hl 0 rfl) ?_
    refine lv_iload_n hx hb dX7_stops_86 rfl (lv_at hl 1 rfl) ?_
    refine lv_iload_n hx hb dX7_stops_87 rfl (lv_at hl 2 rfl) ?_
    obtain ⟨x15, hc14, hf⟩ := zb_inv hf
    refine z_ci (z_rV (As := [.int p1, .int p2]) (rest := []) ⟨hx, hb, hml, hown, hts⟩ (c_X7_arePaired (l := l) (D := D) (cy := cy) (base := base) (st := st) (K := K) (L := L) (c := c) (r := r) (o := o) (z := z) th p1 p2 hk_th hc14) (cwV 2 hts gX7_stops_X7_arePaired rfl rfl rfl (by decide +kernel) ⟨Nat.le_of_ble_eq_true rfl, Nat.le_of_ble_eq_true rfl⟩) hG hC (zC.recv (ci := 7) (fs := _) hK hC (by rw [hk_th]; decide) (by rw [hk_th]; exact zc_7 cy _ _) rfl) rfl hl.1 rfl (lv_room (Nat.le_of_ble_eq_true rfl)) dX7_stops_88 ⟨Nat.le_of_ble_eq_true rfl, Nat.le_of_ble_eq_true rfl⟩) hC (fun H locs hC => ?_)
    refine lv_if_eq (tgt := 110) hx hb dX7_stops_91 (by decide) (fun h19 => ?_) (fun h19 => ?_)
    · have hf := zif_t hf h19
      refine lv_iconst (v := 0) hx hb dX7_stops_110 (by decide) ?_
      exact z_zret hx hb hr hlocks hC (Or.inl rfl) hf dX7_stops_111
    · have hf := zif_f hf h19
      refine lv_aload_n hx hb dX7_stops_94 rfl (lv_at hl 0 rfl) ?_
      refine lv_iload_n hx hb dX7_stops_95 rfl (lv_at hl 1 rfl) ?_
      refine lv_iload_n hx hb dX7_stops_96 rfl (lv_at hl 2 rfl) ?_
      refine lv_iload_n hx hb dX7_stops_97 rfl (lv_at hl 3 rfl) ?_
      refine lv_iload hx hb dX7_stops_98 (lv_at hl 4 rfl) ?_
      obtain ⟨x17, hc16, hf⟩ := zb_inv hf
      refine z_ci (z_rV (As := [.int p1, .int p2, .int p3, .int p4]) (rest := []) ⟨hx, hb, hml, hown, hts⟩ (c_X7_isOpposite (l := l) (D := D) (cy := cy) (base := base) (st := st) (K := K) (L := L) (c := c) (r := r) (o := o) (z := z) th p1 p2 p3 p4 hk_th hc16) (cwV 4 hts gX7_stops_X7_isOpposite rfl rfl rfl (by decide +kernel) ⟨Nat.le_of_ble_eq_true rfl, Nat.le_of_ble_eq_true rfl⟩) hG hC (zC.recv (ci := 7) (fs := _) hK hC (by rw [hk_th]; decide) (by rw [hk_th]; exact zc_7 cy _ _) rfl) rfl hl.1 rfl (lv_room (Nat.le_of_ble_eq_true rfl)) dX7_stops_100 ⟨Nat.le_of_ble_eq_true rfl, Nat.le_of_ble_eq_true rfl⟩) hC (fun H locs hC => ?_)
      refine lv_if_eq (tgt := 110) hx hb dX7_stops_103 (by decide) (fun h18 => ?_) (fun h18 => ?_)
      · have hf := zif_t hf h18
        refine lv_iconst (v := 0) hx hb dX7_stops_110 (by decide) ?_
        exact z_zret hx hb hr hlocks hC (Or.inl rfl) hf dX7_stops_111
      · have hf := zif_f hf h18
        refine lv_iconst (v := 1) hx hb dX7_stops_106 (by decide) ?_
        refine lv_goto (tgt := 111) hx hb dX7_stops_107 (by decide) ?_
        exact z_zret hx hb hr hlocks hC (Or.inr rfl) hf dX7_stops_111
  have hf := zif_f hf h13
  by_cases h20 : p5 = 7
  · have hf := zif_t hf h20
    refine z_name h20.symm ?_
    refine lv_tableIn (off := 146) (tgt := 148) hx hb dX7_stops_2 (by decide) (by decide) (by decide) (by decide) ?_
    refine lv_iconst (v := 0) hx hb dX7_stops_148 (by decide) ?_
    exact z_zret hx hb hr hlocks hC (Or.inl rfl) hf dX7_stops_149
  have hf := zif_f hf h20
  by_cases h21 : p5 = 8
  · have hf := zif_t hf h21
    refine z_name h21.symm ?_
    refine lv_tableIn (off := 110) (tgt := 112) hx hb dX7_stops_2 (by decide) (by decide) (by decide) (by decide) ?_
    refine lv_aload_n hx hb dX7_stops_112 rfl (lv_at hl 0 rfl) ?_
    refine lv_iload_n hx hb dX7_stops_113 rfl (lv_at hl 1 rfl) ?_
    refine lv_iload_n hx hb dX7_stops_114 rfl (lv_at hl 2 rfl) ?_
    refine lv_iload_n hx hb dX7_stops_115 rfl (lv_at hl 3 rfl) ?_
    refine lv_iload hx hb dX7_stops_116 (lv_at hl 4 rfl) ?_
    obtain ⟨x23, hc22, hf⟩ := zb_inv hf
    refine z_ci (z_rV (As := [.int p1, .int p2, .int p3, .int p4]) (rest := []) ⟨hx, hb, hml, hown, hts⟩ (c_X7_isFire (l := l) (D := D) (cy := cy) (base := base) (st := st) (K := K) (L := L) (c := c) (r := r) (o := o) (z := z) th p1 p2 p3 p4 hk_th hc22) (cwV 4 hts gX7_stops_X7_isFire rfl rfl rfl (by decide +kernel) ⟨Nat.le_of_ble_eq_true rfl, Nat.le_of_ble_eq_true rfl⟩) hG hC (zC.recv (ci := 7) (fs := _) hK hC (by rw [hk_th]; decide) (by rw [hk_th]; exact zc_7 cy _ _) rfl) rfl hl.1 rfl (lv_room (Nat.le_of_ble_eq_true rfl)) dX7_stops_118 ⟨Nat.le_of_ble_eq_true rfl, Nat.le_of_ble_eq_true rfl⟩) hC (fun H locs hC => ?_)
    obtain ⟨hz24, hf⟩ := zz_inv hf
    exact z_zret hx hb hr hlocks hC hz24 hf dX7_stops_121
  have hf := zif_f hf h21
  by_cases h25 : p5 = 9
  · have hf := zif_t hf h25
    refine z_name h25.symm ?_
    refine lv_tableIn (off := 146) (tgt := 148) hx hb dX7_stops_2 (by decide) (by decide) (by decide) (by decide) ?_
    refine lv_iconst (v := 0) hx hb dX7_stops_148 (by decide) ?_
    exact z_zret hx hb hr hlocks hC (Or.inl rfl) hf dX7_stops_149
  have hf := zif_f hf h25
  by_cases h26 : p5 = 10
  · have hf := zif_t hf h26
    refine z_name h26.symm ?_
    refine lv_tableIn (off := 120) (tgt := 122) hx hb dX7_stops_2 (by decide) (by decide) (by decide) (by decide) ?_
    refine lv_aload_n hx hb dX7_stops_122 rfl (lv_at hl 0 rfl) ?_
    refine zg_7_8 hx hb hts hi7 hown hK hC hk_th w0 dX7_stops_123 ?_
    obtain ⟨a27, ea27, hk_a27, hf⟩ := zn_inv hf
    refine z_ref ea27 ?_
    refine lv_iload_n hx hb dX7_stops_126 rfl (lv_at hl 1 rfl) ?_
    obtain ⟨hix, hf⟩ := zx_inv hf
    refine xg_108 hx hb hK hC hk_a27 hix dX7_stops_127 ?_
    refine lv_iconst (v := 4) hx hb dX7_stops_128 (by decide) ?_
    refine lv_icmp_ne (tgt := 146) hx hb dX7_stops_129 (by decide) (fun h29 => ?_) (fun h29 => ?_)
    · have hf := zif_f hf h29
      refine lv_iconst (v := 0) hx hb dX7_stops_146 (by decide) ?_
      exact z_zret hx hb hr hlocks hC (Or.inl rfl) hf dX7_stops_147
    · have hf := zif_t hf h29
      refine lv_aload_n hx hb dX7_stops_132 rfl (lv_at hl 0 rfl) ?_
      refine zg_7_8 hx hb hts hi7 hown hK hC hk_th w0 dX7_stops_133 ?_
      refine z_ref ea27 ?_
      refine lv_iload_n hx hb dX7_stops_136 rfl (lv_at hl 2 rfl) ?_
      obtain ⟨hix, hf⟩ := zx_inv hf
      refine xg_108 hx hb hK hC hk_a27 hix dX7_stops_137 ?_
      refine lv_iconst (v := 4) hx hb dX7_stops_138 (by decide) ?_
      refine lv_icmp_ne (tgt := 146) hx hb dX7_stops_139 (by decide) (fun h28 => ?_) (fun h28 => ?_)
      · have hf := zif_f hf h28
        refine lv_iconst (v := 0) hx hb dX7_stops_146 (by decide) ?_
        exact z_zret hx hb hr hlocks hC (Or.inl rfl) hf dX7_stops_147
      · have hf := zif_t hf h28
        refine lv_iconst (v := 1) hx hb dX7_stops_142 (by decide) ?_
        refine lv_goto (tgt := 147) hx hb dX7_stops_143 (by decide) ?_
        exact z_zret hx hb hr hlocks hC (Or.inr rfl) hf dX7_stops_147
  have hf := zif_f hf h26
  refine lv_tableOut (tgt := 148) hx hb dX7_stops_2 (by have q0 := z_ne (k := 3) (by decide) h1; have q1 := z_ne (k := 4) (by decide) h5; have q2 := z_ne (k := 5) (by decide) h6; have q3 := z_ne (k := 6) (by decide) h13; have q4 := z_ne (k := 7) (by decide) h20; have q5 := z_ne (k := 8) (by decide) h21; have q6 := z_ne (k := 9) (by decide) h25; have q7 := z_ne (k := 10) (by decide) h26; omega) (by decide) ?_
  refine lv_iconst (v := 0) hx hb dX7_stops_148 (by decide) ?_
  exact z_zret hx hb hr hlocks hC (Or.inl rfl) hf dX7_stops_149
def f_X7_anyStops_6 (K : Nat → Nat) (z : Nat) (r : zS) (th : Nat) (p1 : Int32) (p2 : Int32) (p3 : Int32) (p4 : Int32) : Nat → Int32 → Int32 → Option Int32
  | 0, _, _ => none
  | n + 1, v5, v6 =>
    (if (zi r 35 th 0) ≤ v6 then zz v5 <| some v5 else (if v5 = 0 then zn K (zr r 27 th 0) 127 fun a3 => zx v6 200 <| (if (zi r 127 a3 (Int32.toNatClampNeg v6)) = 0 then zlet (v6 + 1) fun x4 => f_X7_anyStops_6 K z r th p1 p2 p3 p4 n 0 x4 else (if v6 = p1 then zlet (v6 + 1) fun x5 => f_X7_anyStops_6 K z r th p1 p2 p3 p4 n 0 x5 else zb (f_X7_stops K z r th p1 v6 p2 p3 p4) fun x7 => (if x7 = 0 then zlet (v6 + 1) fun x8 => f_X7_anyStops_6 K z r th p1 p2 p3 p4 n 0 x8 else zlet (v6 + 1) fun x9 => f_X7_anyStops_6 K z r th p1 p2 p3 p4 n 1 x9))) else zz v5 <| some v5))
def f_X7_anyStops (K : Nat → Nat) (z : Nat) (r : zS) (th : Nat) (p1 : Int32) (p2 : Int32) (p3 : Int32) (p4 : Int32) : Option Int32 :=
  f_X7_anyStops_6 K z r th p1 p2 p3 p4 z 0 0
set_option maxRecDepth 100000 in
set_option maxHeartbeats 4000000 in
theorem c_X7_anyStops {l : Launch} {D : va_G} {cy : Nat → ClassId} {base : Nat} {st : Nat → Nat} {K : Nat → Nat} {L : List Nat} {c r : zS} {o : Int64} {z : Nat} (th : Nat) (p1 : Int32) (p2 : Int32) (p3 : Int32) (p4 : Int32) {rv : Int32}  (hk_th : K th = 7) (hf : f_X7_anyStops K z r th p1 p2 p3 p4 = some rv) : Met l yX7_anyStops wsX7_anyStops ({ frames := 4, cells := 0, slots := 0, locals := 97 }) (va_Pc [.ref th, .int p1, .int p2, .int p3, .int p4] (zGW zts0 zns0 D cy base st K L (c, r, o))) (va_Qi (fun (rr : Int32) (_ : Unit) => rr = rv) (fun _ => zB D cy base K L (c, r, o)) (zA base)) 0 0 (zA base) := by
  refine Met.ofW (cc := cX7_anyStops) (maxL := 7) (ret := (some .boolean)) (by decide) rfl ?_
  intro p e s m args below meth cd s₁ B hml hv
  obtain ⟨rfl, hG⟩ := hv
  have hx := B.exec
  have hb := B.bytes
  have hr := B.returns
  have hts := atoms_spec (ws := wsX7_anyStops) B.pre
  have hown : s.vm.findClass RX7 = some m.cls := findClass_of_methodNamed B.named
  have hlocks := B.notSynchronized
  have hC := hG.enter
  have hK := hG.2.2.2.1
  have hi7 : ∀ w ∈ wsX70, w ∈ wsX7_anyStops := by decide +kernel
  have w0 := hts (.fieldLink RX7 131 "MarketSquareModel" "traders" "I") (by decide +kernel)
  have w1 := hts (.fieldLink RX7 87 "MarketSquareModel" "stands" "[Z") (by decide +kernel)
  have hl := lv_entry ([.ref th, .int p1, .int p2, .int p3, .int p4]) (n := 7) (Nat.le_of_ble_eq_true rfl)
  rw [lg_entry_eq]
  generalize (lg_sl ([.ref th, .int p1, .int p2, .int p3, .int p4]) ++ List.replicate (7 - (lg_sl ([.ref th, .int p1, .int p2, .int p3, .int p4])).length) Slot.unset).toArray = ls at hl ⊢
  have hl : lv_has ls 7 [(0, .ref th), (1, .int p1), (2, .int p2), (3, .int p3), (4, .int p4)] := hl
  have L6 : ∀ (n6 : Nat) (H : Heap) (locs : List Loc) (ls : Array Slot) (v5 : Int32) (v6 : Int32), zC D cy base K L (c, r, o) s.heap H locs → lv_has ls 7 [(0, .ref th), (1, .int p1), (2, .int p2), (3, .int p3), (4, .int p4), (5, .int v5), (6, .int v6)] → f_X7_anyStops_6 K z r th p1 p2 p3 p4 n6 v5 v6 = some rv → W p l e (headSpec wsX7_anyStops ({ frames := 4, cells := 0, slots := 0, locals := 97 })).room s m ([.ref th, .int p1, .int p2, .int p3, .int p4] : List Value).toArray below meth cd H locs 0 0 (MQ below (va_Qi (fun (rr : Int32) (_ : Unit) => rr = rv) (fun _ => zB D cy base K L (c, r, o)) (zA base)) ([.ref th, .int p1, .int p2, .int p3, .int p4] : List Value).toArray s 0 0 (zA base)) (F0 m 6 ls []) := by
    intro n6
    induction n6 with
    | zero => intro H locs ls v5 v6 hC hl hf; rw [f_X7_anyStops_6] at hf; cases hf
    | succ n6 ih6 =>
      intro H locs ls v5 v6 hC hl hf
      rw [f_X7_anyStops_6] at hf
      refine lv_iload hx hb dX7_anyStops_6 (lv_at hl 6 rfl) ?_
      refine lv_aload_n hx hb dX7_anyStops_8 rfl (lv_at hl 0 rfl) ?_
      refine zg_7_35 hx hb hts hi7 hown hK hC hk_th w0 dX7_anyStops_9 ?_
      refine lv_icmp_ge (tgt := 63) hx hb dX7_anyStops_12 (by decide) (fun h14 => ?_) (fun h14 => ?_)
      · have hf := zif_t hf h14
        refine lv_iload hx hb dX7_anyStops_63 (lv_at hl 5 rfl) ?_
        obtain ⟨hz1, hf⟩ := zz_inv hf
        exact z_zret hx hb hr hlocks hC hz1 hf dX7_anyStops_65
      · have hf := zif_f hf h14
        refine lv_iload hx hb dX7_anyStops_15 (lv_at hl 5 rfl) ?_
        refine lv_if_ne (tgt := 63) hx hb dX7_anyStops_17 (by decide) (fun h13 => ?_) (fun h13 => ?_)
        · have hf := zif_f hf h13
          refine lv_iload hx hb dX7_anyStops_63 (lv_at hl 5 rfl) ?_
          obtain ⟨hz2, hf⟩ := zz_inv hf
          exact z_zret hx hb hr hlocks hC hz2 hf dX7_anyStops_65
        · have hf := zif_t hf h13
          refine lv_aload_n hx hb dX7_anyStops_20 rfl (lv_at hl 0 rfl) ?_
          refine zg_7_27 hx hb hts hi7 hown hK hC hk_th w1 dX7_anyStops_21 ?_
          obtain ⟨a3, ea3, hk_a3, hf⟩ := zn_inv hf
          refine z_ref ea3 ?_
          refine lv_iload hx hb dX7_anyStops_24 (lv_at hl 6 rfl) ?_
          obtain ⟨hix, hf⟩ := zx_inv hf
          refine xg_127 hx hb hK hC hk_a3 hix dX7_anyStops_26 ?_
          refine lv_if_eq (tgt := 54) hx hb dX7_anyStops_27 (by decide) (fun h12 => ?_) (fun h12 => ?_)
          · have hf := zif_t hf h12
            refine lv_iconst (v := 0) hx hb dX7_anyStops_54 (by decide) ?_
            refine lv_istore (lv' := [(5, .int 0), (0, .ref th), (1, .int p1), (2, .int p2), (3, .int p3), (4, .int p4), (6, .int v6)]) hx hb dX7_anyStops_55 hl (by decide) rfl (fun ls hl => ?_)
            obtain ⟨x4, ex4, hf⟩ := zlet_inv hf
            refine lv_iinc (v := x4) (lv' := [(6, .int x4), (5, .int 0), (0, .ref th), (1, .int p1), (2, .int p2), (3, .int p3), (4, .int p4)]) hx hb dX7_anyStops_57 hl (k := 6) rfl (by rw [ex4]; rfl) (by decide) rfl (fun ls hl => ?_)
            refine lv_goto (tgt := 6) hx hb dX7_anyStops_60 (by decide) ?_
            exact ih6 _ _ _ 0 x4 hC (lv_sub hl [2, 3, 4, 5, 6, 1, 0] rfl) hf
          · have hf := zif_f hf h12
            refine lv_iload hx hb dX7_anyStops_30 (lv_at hl 6 rfl) ?_
            refine lv_iload_n hx hb dX7_anyStops_32 rfl (lv_at hl 1 rfl) ?_
            refine lv_icmp_eq (tgt := 54) hx hb dX7_anyStops_33 (by decide) (fun h11 => ?_) (fun h11 => ?_)
            · have hf := zif_t hf h11
              refine lv_iconst (v := 0) hx hb dX7_anyStops_54 (by decide) ?_
              refine lv_istore (lv' := [(5, .int 0), (0, .ref th), (1, .int p1), (2, .int p2), (3, .int p3), (4, .int p4), (6, .int v6)]) hx hb dX7_anyStops_55 hl (by decide) rfl (fun ls hl => ?_)
              obtain ⟨x5, ex5, hf⟩ := zlet_inv hf
              refine lv_iinc (v := x5) (lv' := [(6, .int x5), (5, .int 0), (0, .ref th), (1, .int p1), (2, .int p2), (3, .int p3), (4, .int p4)]) hx hb dX7_anyStops_57 hl (k := 6) rfl (by rw [ex5]; rfl) (by decide) rfl (fun ls hl => ?_)
              refine lv_goto (tgt := 6) hx hb dX7_anyStops_60 (by decide) ?_
              exact ih6 _ _ _ 0 x5 hC (lv_sub hl [2, 3, 4, 5, 6, 1, 0] rfl) hf
            · have hf := zif_f hf h11
              refine lv_aload_n hx hb dX7_anyStops_36 rfl (lv_at hl 0 rfl) ?_
              refine lv_iload_n hx hb dX7_anyStops_37 rfl (lv_at hl 1 rfl) ?_
              refine lv_iload hx hb dX7_anyStops_38 (lv_at hl 6 rfl) ?_
              refine lv_iload_n hx hb dX7_anyStops_40 rfl (lv_at hl 2 rfl) ?_
              refine lv_iload_n hx hb dX7_anyStops_41 rfl (lv_at hl 3 rfl) ?_
              refine lv_iload hx hb dX7_anyStops_42 (lv_at hl 4 rfl) ?_
              obtain ⟨x7, hc6, hf⟩ := zb_inv hf
              refine z_ci (z_rV (As := [.int p1, .int v6, .int p2, .int p3, .int p4]) (rest := []) ⟨hx, hb, hml, hown, hts⟩ (c_X7_stops (l := l) (D := D) (cy := cy) (base := base) (st := st) (K := K) (L := L) (c := c) (r := r) (o := o) (z := z) th p1 v6 p2 p3 p4 hk_th hc6) (cwV 5 hts gX7_anyStops_X7_stops rfl rfl rfl (by decide +kernel) ⟨Nat.le_of_ble_eq_true rfl, Nat.le_of_ble_eq_true rfl⟩) hG hC (zC.recv (ci := 7) (fs := _) hK hC (by rw [hk_th]; decide) (by rw [hk_th]; exact zc_7 cy _ _) rfl) rfl hl.1 rfl (lv_room (Nat.le_of_ble_eq_true rfl)) dX7_anyStops_44 ⟨Nat.le_of_ble_eq_true rfl, Nat.le_of_ble_eq_true rfl⟩) hC (fun H locs hC => ?_)
              refine lv_if_eq (tgt := 54) hx hb dX7_anyStops_47 (by decide) (fun h10 => ?_) (fun h10 => ?_)
              · have hf := zif_t hf h10
                refine lv_iconst (v := 0) hx hb dX7_anyStops_54 (by decide) ?_
                refine lv_istore (lv' := [(5, .int 0), (0, .ref th), (1, .int p1), (2, .int p2), (3, .int p3), (4, .int p4), (6, .int v6)]) hx hb dX7_anyStops_55 hl (by decide) rfl (fun ls hl => ?_)
                obtain ⟨x8, ex8, hf⟩ := zlet_inv hf
                refine lv_iinc (v := x8) (lv' := [(6, .int x8), (5, .int 0), (0, .ref th), (1, .int p1), (2, .int p2), (3, .int p3), (4, .int p4)]) hx hb dX7_anyStops_57 hl (k := 6) rfl (by rw [ex8]; rfl) (by decide) rfl (fun ls hl => ?_)
                refine lv_goto (tgt := 6) hx hb dX7_anyStops_60 (by decide) ?_
                exact ih6 _ _ _ 0 x8 hC (lv_sub hl [2, 3, 4, 5, 6, 1, 0] rfl) hf
              · have hf := zif_f hf h10
                refine lv_iconst (v := 1) hx hb dX7_anyStops_50 (by decide) ?_
                refine lv_goto (tgt := 55) hx hb dX7_anyStops_51 (by decide) ?_
                refine lv_istore (lv' := [(5, .int 1), (0, .ref th), (1, .int p1), (2, .int p2), (3, .int p3), (4, .int p4), (6, .int v6)]) hx hb dX7_anyStops_55 hl (by decide) rfl (fun ls hl => ?_)
                obtain ⟨x9, ex9, hf⟩ := zlet_inv hf
                refine lv_iinc (v := x9) (lv' := [(6, .int x9), (5, .int 1), (0, .ref th), (1, .int p1), (2, .int p2), (3, .int p3), (4, .int p4)]) hx hb dX7_anyStops_57 hl (k := 6) rfl (by rw [ex9]; rfl) (by decide) rfl (fun ls hl => ?_)
                refine lv_goto (tgt := 6) hx hb dX7_anyStops_60 (by decide) ?_
                exact ih6 _ _ _ 1 x9 hC (lv_sub hl [2, 3, 4, 5, 6, 1, 0] rfl) hf
  unfold f_X7_anyStops at hf
  refine lv_iconst (v := 0) hx hb dX7_anyStops_0 (by decide) ?_
  refine lv_istore (lv' := [(5, .int 0), (0, .ref th), (1, .int p1), (2, .int p2), (3, .int p3), (4, .int p4)]) hx hb dX7_anyStops_1 hl (by decide) rfl (fun ls hl => ?_)
  refine lv_iconst (v := 0) hx hb dX7_anyStops_3 (by decide) ?_
  refine lv_istore (lv' := [(6, .int 0), (5, .int 0), (0, .ref th), (1, .int p1), (2, .int p2), (3, .int p3), (4, .int p4)]) hx hb dX7_anyStops_4 hl (by decide) rfl (fun ls hl => ?_)
  exact L6 z _ _ _ 0 0 hC (lv_sub hl [2, 3, 4, 5, 6, 1, 0] rfl) hf
