def f_X6_needTime (K : Nat → Nat) (z : Nat) (c : zS) (th : Nat) (p1 : Int32) (p2 : Int32) : Option (Unit ⊕ Nat) :=
  (if (zi c 128 th 0) < p1 then some (.inr 3) else (if (zi c 128 th 0) ≤ p2 then some (.inl ()) else some (.inr 3)))
set_option maxRecDepth 100000 in
set_option maxHeartbeats 4000000 in
theorem c_X6_needTime {l : Launch} {D : va_G} {cy : Nat → ClassId} {base : Nat} {st : Nat → Nat} {K : Nat → Nat} {L : List Nat} {c r : zS} {o : Int64} {z : Nat} (th : Nat) (p1 : Int32) (p2 : Int32) {res : Unit ⊕ Nat}  (hk_th : K th = 6) (hst : l.stackTraces = false) (hf : f_X6_needTime K z c th p1 p2 = some res) : vx_Met l yX6_needTime wsX6_needTime ({ frames := 6, cells := 1, slots := 6, locals := 100 }) (va_Pc [.ref th, .int p1, .int p2] (zGW zts0 zns0 D cy base st K L (c, r, o))) (va_Qv (fun (u : Unit) => res = .inl ()) (fun u => zB D cy base K L (c, r, o)) (zA base)) (vx_X (fun (x : Nat) => res = .inr x) (fun E x t => E = zE x ∧ zB D cy base K L (c, r, o) t) (zA base)) 1 6 (zA base) := by
  refine vx_ofW (cc := cX6_needTime) (maxL := 3) (ret := none) (by decide) rfl ?_
  intro p e s m args below meth cd s₁ B hml htab hv
  obtain ⟨rfl, hG⟩ := hv
  have hx := B.exec
  have hb := B.bytes
  have hr := B.returns
  have hts := atoms_spec (ws := wsX6_needTime) B.pre
  have hown : s.vm.findClass RX6 = some m.cls := findClass_of_methodNamed B.named
  have hlocks := B.notSynchronized
  have hC := hG.enter
  have hK := hG.2.2.2.1
  have hi6 : ∀ w ∈ wsX60, w ∈ wsX6_needTime := by decide +kernel
  have w0 := hts (.fieldLink RX6 162 "MarketSquare" "time" "I") (by decide +kernel)
  have w1 := hts (.classLink RX6 328 "java/lang/IllegalStateException") (by decide +kernel)
  have w2 := hts (.initialized "java/lang/IllegalStateException") (by decide +kernel)
  have hl := lv_entry ([.ref th, .int p1, .int p2]) (n := 3) (Nat.le_of_ble_eq_true rfl)
  rw [lg_entry_eq]
  generalize (lg_sl ([.ref th, .int p1, .int p2]) ++ List.replicate (3 - (lg_sl ([.ref th, .int p1, .int p2])).length) Slot.unset).toArray = ls at hl ⊢
  have hl : lv_has ls 3 [(0, .ref th), (1, .int p1), (2, .int p2)] := hl
  unfold f_X6_needTime at hf
  refine lv_aload_n hx hb dX6_needTime_0 rfl (lv_at hl 0 rfl) ?_
  refine zg_6_8 hx hb hts hi6 hown hK hC hk_th w0 dX6_needTime_1 ?_
  refine lv_iload_n hx hb dX6_needTime_4 rfl (lv_at hl 1 rfl) ?_
  refine lv_icmp_lt (tgt := 16) hx hb dX6_needTime_5 (by decide) (fun h2 => ?_) (fun h2 => ?_)
  · have hf := zif_t hf h2
    exact z_throwW (own := RX6) (cls := "java/lang/IllegalStateException") (text := "not at this time") (names := ["java/lang/RuntimeException", "java/lang/Exception"]) (ik := 328) (is := 330) (ic := 332) (k := 3) hx hb hst hown rfl rfl w1 w2 (hG.2.2.2.2.2.2.2.1 16 (RX6, 330, "not at this time") rfl) (z_hat (ws := wsX6_needTime) hts (by decide +kernel) (by decide +kernel) (hG.2.2.2.2.2.2.2.2.2.1 _ (by decide +kernel)) hG.2.2.2.2.2.2.2.2.2.2.2.2) (by decide +kernel) hG hC hl.1 hml dX6_needTime_16 dX6_needTime_19 dX6_needTime_20 dX6_needTime_23 dX6_needTime_26 htab (Nat.le_of_ble_eq_true rfl) (Nat.le_of_ble_eq_true rfl) (Nat.le_of_ble_eq_true rfl) (Nat.le_of_ble_eq_true rfl) hlocks (Nat.le_of_ble_eq_true rfl) (Nat.le_of_ble_eq_true rfl) hf
  · have hf := zif_f hf h2
    refine lv_aload_n hx hb dX6_needTime_8 rfl (lv_at hl 0 rfl) ?_
    refine zg_6_8 hx hb hts hi6 hown hK hC hk_th w0 dX6_needTime_9 ?_
    refine lv_iload_n hx hb dX6_needTime_12 rfl (lv_at hl 2 rfl) ?_
    refine lv_icmp_le (tgt := 27) hx hb dX6_needTime_13 (by decide) (fun h1 => ?_) (fun h1 => ?_)
    · have hf := zif_t hf h1
      refine W.widen (k := 1) (n := 6) (Nat.le_of_ble_eq_true rfl) (Nat.le_of_ble_eq_true rfl) ?_
      exact z_xvret hx hb hr hlocks hC hf dX6_needTime_27
    · have hf := zif_f hf h1
      exact z_throwW (own := RX6) (cls := "java/lang/IllegalStateException") (text := "not at this time") (names := ["java/lang/RuntimeException", "java/lang/Exception"]) (ik := 328) (is := 330) (ic := 332) (k := 3) hx hb hst hown rfl rfl w1 w2 (hG.2.2.2.2.2.2.2.1 16 (RX6, 330, "not at this time") rfl) (z_hat (ws := wsX6_needTime) hts (by decide +kernel) (by decide +kernel) (hG.2.2.2.2.2.2.2.2.2.1 _ (by decide +kernel)) hG.2.2.2.2.2.2.2.2.2.2.2.2) (by decide +kernel) hG hC hl.1 hml dX6_needTime_16 dX6_needTime_19 dX6_needTime_20 dX6_needTime_23 dX6_needTime_26 htab (Nat.le_of_ble_eq_true rfl) (Nat.le_of_ble_eq_true rfl) (Nat.le_of_ble_eq_true rfl) (Nat.le_of_ble_eq_true rfl) hlocks (Nat.le_of_ble_eq_true rfl) (Nat.le_of_ble_eq_true rfl) hf
def f_X6_bell_22 (K : Nat → Nat) (z : Nat) (th : Nat) (c9 : zS) (s0 : Int32) : Option ((Int32 × zS) ⊕ Nat) :=
  zlet (zui c9 128 th 0 ((zi c9 128 th 0) + 1)) fun c4 => some (.inl (s0, c4))
def f_X6_bell (K : Nat → Nat) (z : Nat) (c : zS) (th : Nat) : Option ((Int32 × zS) ⊕ Nat) :=
  zt (f_X6_needTime K z c th 1 2) fun u2 => (if (zi c 128 th 0) = 1 then zb2 (f_X6_giveOutPitches K z c th) fun x6 c7 => f_X6_bell_22 K z th c7 x6 else f_X6_bell_22 K z th c 0)
set_option maxRecDepth 100000 in
set_option maxHeartbeats 4000000 in
theorem c_X6_bell {l : Launch} {D : va_G} {cy : Nat → ClassId} {base : Nat} {st : Nat → Nat} {K : Nat → Nat} {L : List Nat} {c r : zS} {o : Int64} {z : Nat} (th : Nat) {res : (Int32 × zS) ⊕ Nat}  (hk_th : K th = 6) (hst : l.stackTraces = false) (hf : f_X6_bell K z c th = some res) : vx_Met l yX6_bell wsX6_bell ({ frames := 7, cells := 1, slots := 6, locals := 122 }) (va_Pc [.ref th] (zGW zts0 zns0 D cy base st K L (c, r, o))) (va_Qi (fun (rr : Int32) (u : zS) => res = .inl (rr, u)) (fun u => zB D cy base K L (u, r, o)) (zA base)) (vx_X (fun (x : Nat) => res = .inr x) (fun E x t => E = zE x ∧ zB D cy base K L (c, r, o) t) (zA base)) 1 6 (zA base) := by
  refine vx_ofW (cc := cX6_bell) (maxL := 2) (ret := (some .int)) (by decide) rfl ?_
  intro p e s m args below meth cd s₁ B hml htab hv
  obtain ⟨rfl, hG⟩ := hv
  have hx := B.exec
  have hb := B.bytes
  have hr := B.returns
  have hts := atoms_spec (ws := wsX6_bell) B.pre
  have hown : s.vm.findClass RX6 = some m.cls := findClass_of_methodNamed B.named
  have hlocks := B.notSynchronized
  have hC := hG.enter
  have hK := hG.2.2.2.1
  have hi6 : ∀ w ∈ wsX60, w ∈ wsX6_bell := by decide +kernel
  have w0 := hts (.fieldLink RX6 162 "MarketSquare" "time" "I") (by decide +kernel)
  have hl := lv_entry ([.ref th]) (n := 2) (Nat.le_of_ble_eq_true rfl)
  rw [lg_entry_eq]
  generalize (lg_sl ([.ref th]) ++ List.replicate (2 - (lg_sl ([.ref th])).length) Slot.unset).toArray = ls at hl ⊢
  have hl : lv_has ls 2 [(0, .ref th)] := hl
  have J22 : ∀ (c9 : zS) (H : Heap) (locs : List Loc) (ls : Array Slot) (s0 : Int32), zC D cy base K L (c9, r, o) s.heap H locs → lv_has ls 2 [(0, .ref th)] → f_X6_bell_22 K z th c9 s0 = some res → W p l e (headSpec wsX6_bell ({ frames := 7, cells := 1, slots := 6, locals := 122 })).room s m ([.ref th] : List Value).toArray below meth cd H locs 1 6 (vx_MQ below (va_Qi (fun (rr : Int32) (u : zS) => res = .inl (rr, u)) (fun u => zB D cy base K L (u, r, o)) (zA base)) (vx_X (fun (x : Nat) => res = .inr x) (fun E x t => E = zE x ∧ zB D cy base K L (c, r, o) t) (zA base)) ([.ref th] : List Value).toArray s 1 6 (zA base)) (F0 m 22 ls [.int s0]) := by
    intro c9 H locs ls s0 hC hl hf
    unfold f_X6_bell_22 at hf
    refine lv_istore_n (lv' := [(1, .int s0), (0, .ref th)]) hx hb dX6_bell_22 rfl hl (by decide) rfl (fun ls hl => ?_)
    refine lv_aload_n hx hb dX6_bell_23 rfl (lv_at hl 1 rfl) ?_
    refine lv_dup hx hb dX6_bell_24 rfl ?_
    refine zg_6_8 hx hb hts hi6 hown hK hC hk_th w0 dX6_bell_25 ?_
    refine lv_iconst (v := 1) hx hb dX6_bell_28 (by decide) ?_
    refine lv_iadd hx hb dX6_bell_29 ?_
    obtain ⟨c4, ec4, hf⟩ := zlet_inv hf
    refine zp_6_8 hx hb hts hi6 hown hK hC hk_th w0 ec4 dX6_bell_30 (fun H locs hC => ?_)
    refine lv_iload_n hx hb dX6_bell_33 rfl (lv_at hl 0 rfl) ?_
    refine W.widen (k := 1) (n := 6) (Nat.le_of_ble_eq_true rfl) (Nat.le_of_ble_eq_true rfl) ?_
    exact z_xiretW (x := s0) hx hb hr hlocks hC hf dX6_bell_34
  unfold f_X6_bell at hf
  refine lv_aload_n hx hb dX6_bell_0 rfl (lv_at hl 0 rfl) ?_
  refine lv_iconst (v := 1) hx hb dX6_bell_1 (by decide) ?_
  refine lv_iconst (v := 2) hx hb dX6_bell_2 (by decide) ?_
  obtain ⟨q3, hc1, hfn, hfx⟩ := zt_inv hf
  refine z_xcv (z_rxV (As := [.int 1, .int 2]) (rest := []) ⟨hx, hb, hml, hown, hts⟩ (c_X6_needTime (l := l) (D := D) (cy := cy) (base := base) (st := st) (K := K) (L := L) (c := c) (r := r) (o := o) (z := z) th 1 2 hk_th hst hc1) (cwV 2 hts gX6_bell_X6_needTime rfl rfl rfl (by decide +kernel) ⟨Nat.le_of_ble_eq_true rfl, Nat.le_of_ble_eq_true rfl⟩) hG hC (zC.recv (ci := 6) (fs := _) hK hC (by rw [hk_th]; decide) (by rw [hk_th]; exact zc_6 cy _ _) rfl) rfl hl.1 rfl (lv_room (Nat.le_of_ble_eq_true rfl)) dX6_bell_3 ⟨Nat.le_of_ble_eq_true rfl, Nat.le_of_ble_eq_true rfl⟩) hC (fun _ H locs q9 ce hq hC h1 h2 h3 => z_xout htab hlocks (hfx _ hq) hC h1 h2 h3 (Nat.le_of_ble_eq_true rfl) (Nat.le_of_ble_eq_true rfl)) (fun H locs hq hC => ?_)
  have hf := hfn _ hq
  refine lv_aload_n hx hb dX6_bell_6 rfl (lv_at hl 0 rfl) ?_
  refine zg_6_8 hx hb hts hi6 hown hK hC hk_th w0 dX6_bell_7 ?_
  refine lv_iconst (v := 1) hx hb dX6_bell_10 (by decide) ?_
  refine lv_icmp_ne (tgt := 21) hx hb dX6_bell_11 (by decide) (fun h8 => ?_) (fun h8 => ?_)
  · have hf := zif_f hf h8
    refine lv_iconst (v := 0) hx hb dX6_bell_21 (by decide) ?_
    exact J22 _ _ _ _ 0 hC (lv_sub hl [0] rfl) hf
  · have hf := zif_t hf h8
    refine lv_aload_n hx hb dX6_bell_14 rfl (lv_at hl 0 rfl) ?_
    obtain ⟨x6, c7, hc5, hf⟩ := zb2_inv hf
    refine z_ci (z_rV (As := []) (rest := []) ⟨hx, hb, hml, hown, hts⟩ (c_X6_giveOutPitches (l := l) (D := D) (cy := cy) (base := base) (st := st) (K := K) (L := L) (c := c) (r := r) (o := o) (z := z) th hk_th hc5) (cwV 0 hts gX6_bell_X6_giveOutPitches rfl rfl rfl (by decide +kernel) ⟨Nat.le_of_ble_eq_true rfl, Nat.le_of_ble_eq_true rfl⟩) hG hC (zC.recv (ci := 6) (fs := _) hK hC (by rw [hk_th]; decide) (by rw [hk_th]; exact zc_6 cy _ _) rfl) rfl hl.1 rfl (lv_room (Nat.le_of_ble_eq_true rfl)) dX6_bell_15 ⟨Nat.le_of_ble_eq_true rfl, Nat.le_of_ble_eq_true rfl⟩) hC (fun H locs hC => ?_)
    refine lv_goto (tgt := 22) hx hb dX6_bell_18 (by decide) ?_
    exact J22 _ _ _ _ x6 hC (lv_sub hl [0] rfl) hf
def f_X6_knownTrader_21 (K : Nat → Nat) (z : Nat) (c : zS) (th : Nat) (p1 : Int32) (s0 : Option Nat) : Option ((Option Nat) ⊕ Nat) :=
  zo K s0 4 (some (.inr 1)) fun a1 => some (.inl (some a1))
def f_X6_knownTrader_20 (K : Nat → Nat) (z : Nat) (c : zS) (th : Nat) (p1 : Int32) : Option ((Option Nat) ⊕ Nat) :=
  f_X6_knownTrader_21 K z c th p1 none
def f_X6_knownTrader (K : Nat → Nat) (z : Nat) (c : zS) (th : Nat) (p1 : Int32) : Option ((Option Nat) ⊕ Nat) :=
  (if p1 < 0 then f_X6_knownTrader_20 K z c th p1 else (if 200 ≤ p1 then f_X6_knownTrader_20 K z c th p1 else zn K (zr c 122 th 0) 13 fun a2 => zx p1 200 <| zlet (zr c 145 a2 (Int32.toNatClampNeg p1)) fun o3 => f_X6_knownTrader_21 K z c th p1 o3))
set_option maxRecDepth 100000 in
set_option maxHeartbeats 4000000 in
theorem c_X6_knownTrader {l : Launch} {D : va_G} {cy : Nat → ClassId} {base : Nat} {st : Nat → Nat} {K : Nat → Nat} {L : List Nat} {c r : zS} {o : Int64} {z : Nat} (th : Nat) (p1 : Int32) {res : (Option Nat) ⊕ Nat}  (hk_th : K th = 6) (hst : l.stackTraces = false) (hf : f_X6_knownTrader K z c th p1 = some res) : vx_Met l yX6_knownTrader wsX6_knownTrader ({ frames := 6, cells := 1, slots := 6, locals := 100 }) (va_Pc [.ref th, .int p1] (zGW zts0 zns0 D cy base st K L (c, r, o))) (va_Qq (fun (rr : Option Nat) (u : Unit) => res = .inl rr) (fun u => zB D cy base K L (c, r, o)) (zA base)) (vx_X (fun (x : Nat) => res = .inr x) (fun E x t => E = zE x ∧ zB D cy base K L (c, r, o) t) (zA base)) 1 6 (zA base) := by
  refine vx_ofW (cc := cX6_knownTrader) (maxL := 3) (ret := (some (.object "MarketSquare$Trader"))) (by decide) rfl ?_
  intro p e s m args below meth cd s₁ B hml htab hv
  obtain ⟨rfl, hG⟩ := hv
  have hx := B.exec
  have hb := B.bytes
  have hr := B.returns
  have hts := atoms_spec (ws := wsX6_knownTrader) B.pre
  have hown : s.vm.findClass RX6 = some m.cls := findClass_of_methodNamed B.named
  have hlocks := B.notSynchronized
  have hC := hG.enter
  have hK := hG.2.2.2.1
  have hi6 : ∀ w ∈ wsX60, w ∈ wsX6_knownTrader := by decide +kernel
  have w0 := hts (.classLink RX6 57 "java/lang/IndexOutOfBoundsException") (by decide +kernel)
  have w1 := hts (.initialized "java/lang/IndexOutOfBoundsException") (by decide +kernel)
  have w2 := hts (.fieldLink RX6 23 "MarketSquare" "traders" "[LMarketSquare$Trader;") (by decide +kernel)
  have hl := lv_entry ([.ref th, .int p1]) (n := 3) (Nat.le_of_ble_eq_true rfl)
  rw [lg_entry_eq]
  generalize (lg_sl ([.ref th, .int p1]) ++ List.replicate (3 - (lg_sl ([.ref th, .int p1])).length) Slot.unset).toArray = ls at hl ⊢
  have hl : lv_has ls 3 [(0, .ref th), (1, .int p1)] := hl
  have J21 : ∀ (H : Heap) (locs : List Loc) (ls : Array Slot) (s0 : Option Nat), zC D cy base K L (c, r, o) s.heap H locs → lv_has ls 3 [(0, .ref th), (1, .int p1)] → f_X6_knownTrader_21 K z c th p1 s0 = some res → W p l e (headSpec wsX6_knownTrader ({ frames := 6, cells := 1, slots := 6, locals := 100 })).room s m ([.ref th, .int p1] : List Value).toArray below meth cd H locs 0 0 (vx_MQ below (va_Qq (fun (rr : Option Nat) (u : Unit) => res = .inl rr) (fun u => zB D cy base K L (c, r, o)) (zA base)) (vx_X (fun (x : Nat) => res = .inr x) (fun E x t => E = zE x ∧ zB D cy base K L (c, r, o) t) (zA base)) ([.ref th, .int p1] : List Value).toArray s 1 6 (zA base)) (F0 m 21 ls [va_rf s0]) := by
    intro H locs ls s0 hC hl hf
    unfold f_X6_knownTrader_21 at hf
    refine z_astore_n (lv' := [(2, va_rf s0), (0, .ref th), (1, .int p1)]) hx hb dX6_knownTrader_21 rfl hl (by decide) rfl (fun ls hl => ?_)
    refine z_aload_n hx hb dX6_knownTrader_22 rfl (lv_at hl 0 rfl) ?_
    rcases zo_inv hf with ⟨e0, hf0⟩ | ⟨a1, e0, hk_a1, hf0⟩
    · subst e0; have hf := hf0
      have hl : lv_has ls 3 [(2, .null), (0, .ref th), (1, .int p1)] := hl
      refine lv_ifnonnullN hx hb dX6_knownTrader_23 ?_
      exact z_throwW (own := RX6) (cls := "java/lang/IndexOutOfBoundsException") (text := "no such trader") (names := ["java/lang/RuntimeException", "java/lang/Exception"]) (ik := 57) (is := 337) (ic := 61) (k := 1) hx hb hst hown rfl rfl w0 w1 (hG.2.2.2.2.2.2.2.1 19 (RX6, 337, "no such trader") rfl) (z_hat (ws := wsX6_knownTrader) hts (by decide +kernel) (by decide +kernel) (hG.2.2.2.2.2.2.2.2.2.1 _ (by decide +kernel)) hG.2.2.2.2.2.2.2.2.2.2.2.2) (by decide +kernel) hG hC hl.1 hml dX6_knownTrader_26 dX6_knownTrader_29 dX6_knownTrader_30 dX6_knownTrader_33 dX6_knownTrader_36 htab (Nat.le_of_ble_eq_true rfl) (Nat.le_of_ble_eq_true rfl) (Nat.le_of_ble_eq_true rfl) (Nat.le_of_ble_eq_true rfl) hlocks (Nat.le_of_ble_eq_true rfl) (Nat.le_of_ble_eq_true rfl) hf
    · subst e0; have hf := hf0
      have hl : lv_has ls 3 [(2, .ref a1), (0, .ref th), (1, .int p1)] := hl
      refine lv_ifnonnull (tgt := 37) hx hb dX6_knownTrader_23 (by decide) ?_
      refine lv_aload_n hx hb dX6_knownTrader_37 rfl (lv_at hl 0 rfl) ?_
      refine W.widen (k := 1) (n := 6) (Nat.le_of_ble_eq_true rfl) (Nat.le_of_ble_eq_true rfl) ?_
      exact z_xqret (x := (some a1)) hx hb hr hlocks hC hf dX6_knownTrader_38
  have J20 : ∀ (H : Heap) (locs : List Loc) (ls : Array Slot), zC D cy base K L (c, r, o) s.heap H locs → lv_has ls 3 [(0, .ref th), (1, .int p1)] → f_X6_knownTrader_20 K z c th p1 = some res → W p l e (headSpec wsX6_knownTrader ({ frames := 6, cells := 1, slots := 6, locals := 100 })).room s m ([.ref th, .int p1] : List Value).toArray below meth cd H locs 0 0 (vx_MQ below (va_Qq (fun (rr : Option Nat) (u : Unit) => res = .inl rr) (fun u => zB D cy base K L (c, r, o)) (zA base)) (vx_X (fun (x : Nat) => res = .inr x) (fun E x t => E = zE x ∧ zB D cy base K L (c, r, o) t) (zA base)) ([.ref th, .int p1] : List Value).toArray s 1 6 (zA base)) (F0 m 20 ls []) := by
    intro H locs ls hC hl hf
    unfold f_X6_knownTrader_20 at hf
    refine lv_null hx hb dX6_knownTrader_20 ?_
    exact J21 _ _ _ none hC (lv_sub hl [0, 1] rfl) hf
  unfold f_X6_knownTrader at hf
  refine lv_iload_n hx hb dX6_knownTrader_0 rfl (lv_at hl 1 rfl) ?_
  refine lv_if_lt (tgt := 20) hx hb dX6_knownTrader_1 (by decide) (fun h5 => ?_) (fun h5 => ?_)
  · have hf := zif_t hf h5
    exact J20 _ _ _ hC (lv_sub hl [0, 1] rfl) hf
  · have hf := zif_f hf h5
    refine lv_iload_n hx hb dX6_knownTrader_4 rfl (lv_at hl 1 rfl) ?_
    refine lv_sipush (v := 200) hx hb dX6_knownTrader_5 (by decide) ?_
    refine lv_icmp_ge (tgt := 20) hx hb dX6_knownTrader_8 (by decide) (fun h4 => ?_) (fun h4 => ?_)
    · have hf := zif_t hf h4
      exact J20 _ _ _ hC (lv_sub hl [0, 1] rfl) hf
    · have hf := zif_f hf h4
      refine lv_aload_n hx hb dX6_knownTrader_11 rfl (lv_at hl 0 rfl) ?_
      refine zg_6_2 hx hb hts hi6 hown hK hC hk_th w2 dX6_knownTrader_12 ?_
      obtain ⟨a2, ea2, hk_a2, hf⟩ := zn_inv hf
      refine z_ref ea2 ?_
      refine lv_iload_n hx hb dX6_knownTrader_15 rfl (lv_at hl 1 rfl) ?_
      obtain ⟨hix, hf⟩ := zx_inv hf
      refine xg_13 hx hb hK hC hk_a2 hix dX6_knownTrader_16 ?_
      obtain ⟨o3, eo3, hf⟩ := zlet_inv hf
      refine z_nameo eo3 ?_
      refine lv_goto (tgt := 21) hx hb dX6_knownTrader_17 (by decide) ?_
      exact J21 _ _ _ o3 hC (lv_sub hl [0, 1] rfl) hf
def f_X6_change (K : Nat → Nat) (z : Nat) (c : zS) (th : Nat) (p1 : Int32) (p2 : Int32) : Option ((Int32 × zS) ⊕ Nat) :=
  zt (f_X6_knownTrader K z c th p1) fun o2 => zn K o2 4 fun a4 => zt (f_X6_knownTrader K z c th p2) fun o6 => zn K o6 4 fun a8 => zt (f_X6_needTime K z c th 2 3) fun u10 => (if a4 = a8 then some (.inl (0, c)) else zn K (zr c 85 a4 0) 2 fun a12 => zn K (zr c 40 a12 0) 1 fun a13 => (if (zi c 20 a13 0) = 0 then some (.inl (0, c)) else zn K (zr c 85 a8 0) 2 fun a14 => zn K (zr c 40 a14 0) 1 fun a15 => (if (zi c 20 a15 0) = 0 then some (.inl (0, c)) else zb2 (f_X6_swapIfBothSuit K z c th a4 a8) fun x17 c18 => zz x17 <| some (.inl (x17, c18)))))
set_option maxRecDepth 100000 in
set_option maxHeartbeats 4000000 in
theorem c_X6_change {l : Launch} {D : va_G} {cy : Nat → ClassId} {base : Nat} {st : Nat → Nat} {K : Nat → Nat} {L : List Nat} {c r : zS} {o : Int64} {z : Nat} (th : Nat) (p1 : Int32) (p2 : Int32) {res : (Int32 × zS) ⊕ Nat}  (hk_th : K th = 6) (hst : l.stackTraces = false) (hf : f_X6_change K z c th p1 p2 = some res) : vx_Met l yX6_change wsX6_change ({ frames := 7, cells := 3, slots := 18, locals := 122 }) (va_Pc [.ref th, .int p1, .int p2] (zGW zts0 zns0 D cy base st K L (c, r, o))) (va_Qi (fun (rr : Int32) (u : zS) => res = .inl (rr, u)) (fun u => zB D cy base K L (u, r, o)) (zA base)) (vx_X (fun (x : Nat) => res = .inr x) (fun E x t => E = zE x ∧ zB D cy base K L (c, r, o) t) (zA base)) 3 18 (zA base) := by
  refine vx_ofW (cc := cX6_change) (maxL := 5) (ret := (some .boolean)) (by decide) rfl ?_
  intro p e s m args below meth cd s₁ B hml htab hv
  obtain ⟨rfl, hG⟩ := hv
  have hx := B.exec
  have hb := B.bytes
  have hr := B.returns
  have hts := atoms_spec (ws := wsX6_change) B.pre
  have hown : s.vm.findClass RX6 = some m.cls := findClass_of_methodNamed B.named
  have hlocks := B.notSynchronized
  have hC := hG.enter
  have hK := hG.2.2.2.1
  have hi1 : ∀ w ∈ wsX10, w ∈ wsX6_change := by decide +kernel
  have hi2 : ∀ w ∈ wsX20, w ∈ wsX6_change := by decide +kernel
  have hi4 : ∀ w ∈ wsX40, w ∈ wsX6_change := by decide +kernel
  have w0 := hts (.fieldLink RX6 168 "MarketSquare$Trader" "today" "LMarketSquare$Today;") (by decide +kernel)
  have w1 := hts (.fieldLink RX6 224 "MarketSquare$Today" "stall" "LMarketSquare$Spot;") (by decide +kernel)
  have w2 := hts (.fieldLink RX6 227 "MarketSquare$Spot" "isSet" "Z") (by decide +kernel)
  have hl := lv_entry ([.ref th, .int p1, .int p2]) (n := 5) (Nat.le_of_ble_eq_true rfl)
  rw [lg_entry_eq]
  generalize (lg_sl ([.ref th, .int p1, .int p2]) ++ List.replicate (5 - (lg_sl ([.ref th, .int p1, .int p2])).length) Slot.unset).toArray = ls at hl ⊢
  have hl : lv_has ls 5 [(0, .ref th), (1, .int p1), (2, .int p2)] := hl
  unfold f_X6_change at hf
  refine lv_aload_n hx hb dX6_change_0 rfl (lv_at hl 0 rfl) ?_
  refine lv_iload_n hx hb dX6_change_1 rfl (lv_at hl 1 rfl) ?_
  obtain ⟨q3, hc1, hfn, hfx⟩ := zt_inv hf
  refine z_xcq (z_rxV (As := [.int p1]) (rest := []) ⟨hx, hb, hml, hown, hts⟩ (c_X6_knownTrader (l := l) (D := D) (cy := cy) (base := base) (st := st) (K := K) (L := L) (c := c) (r := r) (o := o) (z := z) th p1 hk_th hst hc1) (cwV 1 hts gX6_change_X6_knownTrader rfl rfl rfl (by decide +kernel) ⟨Nat.le_of_ble_eq_true rfl, Nat.le_of_ble_eq_true rfl⟩) hG hC (zC.recv (ci := 6) (fs := _) hK hC (by rw [hk_th]; decide) (by rw [hk_th]; exact zc_6 cy _ _) rfl) rfl hl.1 rfl (lv_room (Nat.le_of_ble_eq_true rfl)) dX6_change_2 ⟨Nat.le_of_ble_eq_true rfl, Nat.le_of_ble_eq_true rfl⟩) hC (fun _ H locs q9 ce hq hC h1 h2 h3 => z_xout htab hlocks (hfx _ hq) hC h1 h2 h3 (Nat.le_of_ble_eq_true rfl) (Nat.le_of_ble_eq_true rfl)) (fun o2 H locs hq hC => ?_)
  have hf := hfn _ hq
  obtain ⟨a4, ea4, hk_a4, hf⟩ := zn_inv hf
  refine z_ref ea4 ?_
  refine lv_astore_n (lv' := [(3, .ref a4), (0, .ref th), (1, .int p1), (2, .int p2)]) hx hb dX6_change_5 rfl hl (by decide) rfl (fun ls hl => ?_)
  refine lv_aload_n hx hb dX6_change_6 rfl (lv_at hl 1 rfl) ?_
  refine lv_iload_n hx hb dX6_change_7 rfl (lv_at hl 3 rfl) ?_
  obtain ⟨q7, hc5, hfn, hfx⟩ := zt_inv hf
  refine z_xcq (z_rxV (As := [.int p2]) (rest := []) ⟨hx, hb, hml, hown, hts⟩ (c_X6_knownTrader (l := l) (D := D) (cy := cy) (base := base) (st := st) (K := K) (L := L) (c := c) (r := r) (o := o) (z := z) th p2 hk_th hst hc5) (cwV 1 hts gX6_change_X6_knownTrader rfl rfl rfl (by decide +kernel) ⟨Nat.le_of_ble_eq_true rfl, Nat.le_of_ble_eq_true rfl⟩) hG hC (zC.recv (ci := 6) (fs := _) hK hC (by rw [hk_th]; decide) (by rw [hk_th]; exact zc_6 cy _ _) rfl) rfl hl.1 rfl (lv_room (Nat.le_of_ble_eq_true rfl)) dX6_change_8 ⟨Nat.le_of_ble_eq_true rfl, Nat.le_of_ble_eq_true rfl⟩) hC (fun _ H locs q9 ce hq hC h1 h2 h3 => z_xout htab hlocks (hfx _ hq) hC h1 h2 h3 (Nat.le_of_ble_eq_true rfl) (Nat.le_of_ble_eq_true rfl)) (fun o6 H locs hq hC => ?_)
  have hf := hfn _ hq
  obtain ⟨a8, ea8, hk_a8, hf⟩ := zn_inv hf
  refine z_ref ea8 ?_
  refine lv_astore (lv' := [(4, .ref a8), (3, .ref a4), (0, .ref th), (1, .int p1), (2, .int p2)]) hx hb dX6_change_11 hl (by decide) rfl (fun ls hl => ?_)
  refine lv_aload_n hx hb dX6_change_13 rfl (lv_at hl 2 rfl) ?_
  refine lv_iconst (v := 2) hx hb dX6_change_14 (by decide) ?_
  refine lv_iconst (v := 3) hx hb dX6_change_15 (by decide) ?_
  obtain ⟨q11, hc9, hfn, hfx⟩ := zt_inv hf
  refine z_xcv (z_rxV (As := [.int 2, .int 3]) (rest := []) ⟨hx, hb, hml, hown, hts⟩ (c_X6_needTime (l := l) (D := D) (cy := cy) (base := base) (st := st) (K := K) (L := L) (c := c) (r := r) (o := o) (z := z) th 2 3 hk_th hst hc9) (cwV 2 hts gX6_change_X6_needTime rfl rfl rfl (by decide +kernel) ⟨Nat.le_of_ble_eq_true rfl, Nat.le_of_ble_eq_true rfl⟩) hG hC (zC.recv (ci := 6) (fs := _) hK hC (by rw [hk_th]; decide) (by rw [hk_th]; exact zc_6 cy _ _) rfl) rfl hl.1 rfl (lv_room (Nat.le_of_ble_eq_true rfl)) dX6_change_16 ⟨Nat.le_of_ble_eq_true rfl, Nat.le_of_ble_eq_true rfl⟩) hC (fun _ H locs q9 ce hq hC h1 h2 h3 => z_xout htab hlocks (hfx _ hq) hC h1 h2 h3 (Nat.le_of_ble_eq_true rfl) (Nat.le_of_ble_eq_true rfl)) (fun H locs hq hC => ?_)
  have hf := hfn _ hq
  refine lv_aload_n hx hb dX6_change_19 rfl (lv_at hl 1 rfl) ?_
  refine lv_aload hx hb dX6_change_20 (lv_at hl 0 rfl) ?_
  refine z_acmp_eq (tgt := 52) hx hb dX6_change_22 (by decide) (fun h22 => ?_) (fun h22 => ?_)
  · have hf := zif_t hf h22
    refine lv_iconst (v := 0) hx hb dX6_change_52 (by decide) ?_
    refine W.widen (k := 3) (n := 18) (Nat.le_of_ble_eq_true rfl) (Nat.le_of_ble_eq_true rfl) ?_
    exact z_xzretW hx hb hr hlocks hC (Or.inl rfl) hf dX6_change_53
  · have hf := zif_f hf h22
    refine lv_aload_n hx hb dX6_change_25 rfl (lv_at hl 1 rfl) ?_
    refine zg_4_5 hx hb hts hi4 hown hK hC hk_a4 w0 dX6_change_26 ?_
    obtain ⟨a12, ea12, hk_a12, hf⟩ := zn_inv hf
    refine z_ref ea12 ?_
    refine zg_2_0 hx hb hts hi2 hown hK hC hk_a12 w1 dX6_change_29 ?_
    obtain ⟨a13, ea13, hk_a13, hf⟩ := zn_inv hf
    refine z_ref ea13 ?_
    refine zg_1_0 hx hb hts hi1 hown hK hC hk_a13 w2 dX6_change_32 ?_
    refine lv_if_eq (tgt := 52) hx hb dX6_change_35 (by decide) (fun h21 => ?_) (fun h21 => ?_)
    · have hf := zif_t hf h21
      refine lv_iconst (v := 0) hx hb dX6_change_52 (by decide) ?_
      refine W.widen (k := 3) (n := 18) (Nat.le_of_ble_eq_true rfl) (Nat.le_of_ble_eq_true rfl) ?_
      exact z_xzretW hx hb hr hlocks hC (Or.inl rfl) hf dX6_change_53
    · have hf := zif_f hf h21
      refine lv_aload hx hb dX6_change_38 (lv_at hl 0 rfl) ?_
      refine zg_4_5 hx hb hts hi4 hown hK hC hk_a8 w0 dX6_change_40 ?_
      obtain ⟨a14, ea14, hk_a14, hf⟩ := zn_inv hf
      refine z_ref ea14 ?_
      refine zg_2_0 hx hb hts hi2 hown hK hC hk_a14 w1 dX6_change_43 ?_
      obtain ⟨a15, ea15, hk_a15, hf⟩ := zn_inv hf
      refine z_ref ea15 ?_
      refine zg_1_0 hx hb hts hi1 hown hK hC hk_a15 w2 dX6_change_46 ?_
      refine lv_if_ne (tgt := 54) hx hb dX6_change_49 (by decide) (fun h20 => ?_) (fun h20 => ?_)
      · have hf := zif_f hf h20
        refine lv_aload_n hx hb dX6_change_54 rfl (lv_at hl 2 rfl) ?_
        refine lv_aload_n hx hb dX6_change_55 rfl (lv_at hl 1 rfl) ?_
        refine lv_aload hx hb dX6_change_56 (lv_at hl 0 rfl) ?_
        obtain ⟨x17, c18, hc16, hf⟩ := zb2_inv hf
        refine z_ci (z_rV (As := [.ref a4, .ref a8]) (rest := []) ⟨hx, hb, hml, hown, hts⟩ (c_X6_swapIfBothSuit (l := l) (D := D) (cy := cy) (base := base) (st := st) (K := K) (L := L) (c := c) (r := r) (o := o) (z := z) th a4 a8 hk_th hk_a4 hk_a8 hc16) (cwV 2 hts gX6_change_X6_swapIfBothSuit rfl rfl rfl (by decide +kernel) ⟨Nat.le_of_ble_eq_true rfl, Nat.le_of_ble_eq_true rfl⟩) hG hC (zC.recv (ci := 6) (fs := _) hK hC (by rw [hk_th]; decide) (by rw [hk_th]; exact zc_6 cy _ _) rfl) rfl hl.1 rfl (lv_room (Nat.le_of_ble_eq_true rfl)) dX6_change_58 ⟨Nat.le_of_ble_eq_true rfl, Nat.le_of_ble_eq_true rfl⟩) hC (fun H locs hC => ?_)
        refine W.widen (k := 3) (n := 18) (Nat.le_of_ble_eq_true rfl) (Nat.le_of_ble_eq_true rfl) ?_
        obtain ⟨hz19, hf⟩ := zz_inv hf
        exact z_xzretW hx hb hr hlocks hC hz19 hf dX6_change_61
      · have hf := zif_t hf h20
        refine lv_iconst (v := 0) hx hb dX6_change_52 (by decide) ?_
        refine W.widen (k := 3) (n := 18) (Nat.le_of_ble_eq_true rfl) (Nat.le_of_ble_eq_true rfl) ?_
        exact z_xzretW hx hb hr hlocks hC (Or.inl rfl) hf dX6_change_53
def f_X6_close_62 (K : Nat → Nat) (z : Nat) (th : Nat) : Nat → zS → Int32 → Int32 → Option ((Int32 × zS) ⊕ Nat)
  | 0, _, _, _ => none
  | n + 1, c9, v1, v2 =>
    (if (zi c9 126 th 0) ≤ v2 then zlet (zui c9 128 th 0 0) fun c7 => some (.inl (v1, c7)) else zn K (zr c9 122 th 0) 13 fun a8 => zx v2 200 <| zn K (zr c9 145 a8 (Int32.toNatClampNeg v2)) 4 fun a9 => zn K (zr c9 85 a9 0) 2 fun a10 => zb (f_X2_clear K z c9 a10) fun c13 => zlet (v2 + 1) fun x14 => f_X6_close_62 K z th n c13 v1 x14)
def f_X6_close_39 (K : Nat → Nat) (z : Nat) (th : Nat) : Nat → zS → Int32 → Int32 → Option ((Int32 × zS) ⊕ Nat)
  | 0, _, _, _ => none
  | n + 1, c9, v1, v2 =>
    (if v1 ≤ v2 then f_X6_close_62 K z th z c9 v1 0 else zn K (zr c9 124 th 0) 15 fun a16 => zx v2 200 <| zn K (zr c9 147 a16 (Int32.toNatClampNeg v2)) 4 fun a17 => zb (f_X6_losePitch K z c9 th a17) fun c20 => zlet (v2 + 1) fun x21 => f_X6_close_39 K z th n c20 v1 x21)
def f_X6_close_8 (K : Nat → Nat) (z : Nat) (th : Nat) : Nat → zS → Int32 → Option ((Int32 × zS) ⊕ Nat)
  | 0, _, _ => none
  | n + 1, c9, v1 =>
    (if (zi c9 126 th 0) ≤ v1 then zb2 (f_X6_lineUpLosers K z c9 th) fun x5 c6 => f_X6_close_39 K z th z c6 x5 0 else zn K (zr c9 122 th 0) 13 fun a23 => zx v1 200 <| zn K (zr c9 145 a23 (Int32.toNatClampNeg v1)) 4 fun a24 => zb (f_X6_writeUpDay K z c9 th a24) fun c27 => zlet (v1 + 1) fun x28 => f_X6_close_8 K z th n c27 x28)
def f_X6_close (K : Nat → Nat) (z : Nat) (c : zS) (th : Nat) : Option ((Int32 × zS) ⊕ Nat) :=
  zt (f_X6_needTime K z c th 3 3) fun u2 => f_X6_close_8 K z th z c 0
set_option maxRecDepth 100000 in
set_option maxHeartbeats 4000000 in
theorem c_X6_close {l : Launch} {D : va_G} {cy : Nat → ClassId} {base : Nat} {st : Nat → Nat} {K : Nat → Nat} {L : List Nat} {c r : zS} {o : Int64} {z : Nat} (th : Nat) {res : (Int32 × zS) ⊕ Nat}  (hk_th : K th = 6) (hst : l.stackTraces = false) (hf : f_X6_close K z c th = some res) : vx_Met l yX6_close wsX6_close ({ frames := 7, cells := 1, slots := 6, locals := 122 }) (va_Pc [.ref th] (zGW zts0 zns0 D cy base st K L (c, r, o))) (va_Qi (fun (rr : Int32) (u : zS) => res = .inl (rr, u)) (fun u => zB D cy base K L (u, r, o)) (zA base)) (vx_X (fun (x : Nat) => res = .inr x) (fun E x t => E = zE x ∧ zB D cy base K L (c, r, o) t) (zA base)) 1 6 (zA base) := by
  refine vx_ofW (cc := cX6_close) (maxL := 3) (ret := (some .int)) (by decide) rfl ?_
  intro p e s m args below meth cd s₁ B hml htab hv
  obtain ⟨rfl, hG⟩ := hv
  have hx := B.exec
  have hb := B.bytes
  have hr := B.returns
  have hts := atoms_spec (ws := wsX6_close) B.pre
  have hown : s.vm.findClass RX6 = some m.cls := findClass_of_methodNamed B.named
  have hlocks := B.notSynchronized
  have hC := hG.enter
  have hK := hG.2.2.2.1
  have hi4 : ∀ w ∈ wsX40, w ∈ wsX6_close := by decide +kernel
  have hi6 : ∀ w ∈ wsX60, w ∈ wsX6_close := by decide +kernel
  have w0 := hts (.fieldLink RX6 100 "MarketSquare" "traderCount" "I") (by decide +kernel)
  have w1 := hts (.fieldLink RX6 162 "MarketSquare" "time" "I") (by decide +kernel)
  have w2 := hts (.fieldLink RX6 23 "MarketSquare" "traders" "[LMarketSquare$Trader;") (by decide +kernel)
  have w3 := hts (.fieldLink RX6 168 "MarketSquare$Trader" "today" "LMarketSquare$Today;") (by decide +kernel)
  have w4 := hts (.fieldLink RX6 30 "MarketSquare" "line" "[LMarketSquare$Trader;") (by decide +kernel)
  have hl := lv_entry ([.ref th]) (n := 3) (Nat.le_of_ble_eq_true rfl)
  rw [lg_entry_eq]
  generalize (lg_sl ([.ref th]) ++ List.replicate (3 - (lg_sl ([.ref th])).length) Slot.unset).toArray = ls at hl ⊢
  have hl : lv_has ls 3 [(0, .ref th)] := hl
  have L62 : ∀ (n62 : Nat) (c9 : zS) (H : Heap) (locs : List Loc) (ls : Array Slot) (v1 : Int32) (v2 : Int32), zC D cy base K L (c9, r, o) s.heap H locs → lv_has ls 3 [(0, .ref th), (1, .int v1), (2, .int v2)] → f_X6_close_62 K z th n62 c9 v1 v2 = some res → W p l e (headSpec wsX6_close ({ frames := 7, cells := 1, slots := 6, locals := 122 })).room s m ([.ref th] : List Value).toArray below meth cd H locs 1 6 (vx_MQ below (va_Qi (fun (rr : Int32) (u : zS) => res = .inl (rr, u)) (fun u => zB D cy base K L (u, r, o)) (zA base)) (vx_X (fun (x : Nat) => res = .inr x) (fun E x t => E = zE x ∧ zB D cy base K L (c, r, o) t) (zA base)) ([.ref th] : List Value).toArray s 1 6 (zA base)) (F0 m 62 ls []) := by
    intro n62
    induction n62 with
    | zero => intro c9 H locs ls v1 v2 hC hl hf; rw [f_X6_close_62] at hf; cases hf
    | succ n62 ih62 =>
      intro c9 H locs ls v1 v2 hC hl hf
      rw [f_X6_close_62] at hf
      refine lv_iload_n hx hb dX6_close_62 rfl (lv_at hl 2 rfl) ?_
      refine lv_aload_n hx hb dX6_close_63 rfl (lv_at hl 0 rfl) ?_
      refine zg_6_6 hx hb hts hi6 hown hK hC hk_th w0 dX6_close_64 ?_
      refine lv_icmp_ge (tgt := 88) hx hb dX6_close_67 (by decide) (fun h15 => ?_) (fun h15 => ?_)
      · have hf := zif_t hf h15
        refine lv_aload_n hx hb dX6_close_88 rfl (lv_at hl 0 rfl) ?_
        refine lv_iconst (v := 0) hx hb dX6_close_89 (by decide) ?_
        obtain ⟨c7, ec7, hf⟩ := zlet_inv hf
        refine zp_6_8 hx hb hts hi6 hown hK hC hk_th w1 ec7 dX6_close_90 (fun H locs hC => ?_)
        refine lv_iload_n hx hb dX6_close_93 rfl (lv_at hl 1 rfl) ?_
        refine W.widen (k := 1) (n := 6) (Nat.le_of_ble_eq_true rfl) (Nat.le_of_ble_eq_true rfl) ?_
        exact z_xiretW (x := v1) hx hb hr hlocks hC hf dX6_close_94
      · have hf := zif_f hf h15
        refine lv_aload_n hx hb dX6_close_70 rfl (lv_at hl 0 rfl) ?_
        refine zg_6_2 hx hb hts hi6 hown hK hC hk_th w2 dX6_close_71 ?_
        obtain ⟨a8, ea8, hk_a8, hf⟩ := zn_inv hf
        refine z_ref ea8 ?_
        refine lv_iload_n hx hb dX6_close_74 rfl (lv_at hl 2 rfl) ?_
        obtain ⟨hix, hf⟩ := zx_inv hf
        refine xg_13 hx hb hK hC hk_a8 hix dX6_close_75 ?_
        obtain ⟨a9, ea9, hk_a9, hf⟩ := zn_inv hf
        refine z_ref ea9 ?_
        refine zg_4_5 hx hb hts hi4 hown hK hC hk_a9 w3 dX6_close_76 ?_
        obtain ⟨a10, ea10, hk_a10, hf⟩ := zn_inv hf
        refine z_ref ea10 ?_
        obtain ⟨c13, hc11, hf⟩ := zb_inv hf
        refine z_cv (z_rV (As := []) (rest := []) ⟨hx, hb, hml, hown, hts⟩ (c_X2_clear (l := l) (D := D) (cy := cy) (base := base) (st := st) (K := K) (L := L) (c := c9) (r := r) (o := o) (z := z) a10 hk_a10 hc11) (cwV 0 hts gX6_close_X2_clear rfl rfl rfl (by decide +kernel) ⟨Nat.le_of_ble_eq_true rfl, Nat.le_of_ble_eq_true rfl⟩) hG hC (zC.recv (ci := 2) (fs := _) hK hC (by rw [hk_a10]; decide) (by rw [hk_a10]; exact zc_2 cy _ _) rfl) rfl hl.1 rfl (lv_room (Nat.le_of_ble_eq_true rfl)) dX6_close_79 ⟨Nat.le_of_ble_eq_true rfl, Nat.le_of_ble_eq_true rfl⟩) hC (fun H locs hC => ?_)
        obtain ⟨x14, ex14, hf⟩ := zlet_inv hf
        refine lv_iinc (v := x14) (lv' := [(2, .int x14), (0, .ref th), (1, .int v1)]) hx hb dX6_close_82 hl (k := 2) rfl (by rw [ex14]; rfl) (by decide) rfl (fun ls hl => ?_)
        refine lv_goto (tgt := 62) hx hb dX6_close_85 (by decide) ?_
        exact ih62 _ _ _ _ v1 x14 hC (lv_sub hl [1, 2, 0] rfl) hf
  have L39 : ∀ (n39 : Nat) (c9 : zS) (H : Heap) (locs : List Loc) (ls : Array Slot) (v1 : Int32) (v2 : Int32), zC D cy base K L (c9, r, o) s.heap H locs → lv_has ls 3 [(0, .ref th), (1, .int v1), (2, .int v2)] → f_X6_close_39 K z th n39 c9 v1 v2 = some res → W p l e (headSpec wsX6_close ({ frames := 7, cells := 1, slots := 6, locals := 122 })).room s m ([.ref th] : List Value).toArray below meth cd H locs 1 6 (vx_MQ below (va_Qi (fun (rr : Int32) (u : zS) => res = .inl (rr, u)) (fun u => zB D cy base K L (u, r, o)) (zA base)) (vx_X (fun (x : Nat) => res = .inr x) (fun E x t => E = zE x ∧ zB D cy base K L (c, r, o) t) (zA base)) ([.ref th] : List Value).toArray s 1 6 (zA base)) (F0 m 39 ls []) := by
    intro n39
    induction n39 with
    | zero => intro c9 H locs ls v1 v2 hC hl hf; rw [f_X6_close_39] at hf; cases hf
    | succ n39 ih39 =>
      intro c9 H locs ls v1 v2 hC hl hf
      rw [f_X6_close_39] at hf
      refine lv_iload_n hx hb dX6_close_39 rfl (lv_at hl 2 rfl) ?_
      refine lv_iload_n hx hb dX6_close_40 rfl (lv_at hl 1 rfl) ?_
      refine lv_icmp_ge (tgt := 60) hx hb dX6_close_41 (by decide) (fun h22 => ?_) (fun h22 => ?_)
      · have hf := zif_t hf h22
        refine lv_iconst (v := 0) hx hb dX6_close_60 (by decide) ?_
        refine lv_istore_n (lv' := [(2, .int 0), (0, .ref th), (1, .int v1)]) hx hb dX6_close_61 rfl hl (by decide) rfl (fun ls hl => ?_)
        exact L62 z _ _ _ _ v1 0 hC (lv_sub hl [1, 2, 0] rfl) hf
      · have hf := zif_f hf h22
        refine lv_aload_n hx hb dX6_close_44 rfl (lv_at hl 0 rfl) ?_
        refine lv_aload_n hx hb dX6_close_45 rfl (lv_at hl 0 rfl) ?_
        refine zg_6_4 hx hb hts hi6 hown hK hC hk_th w4 dX6_close_46 ?_
        obtain ⟨a16, ea16, hk_a16, hf⟩ := zn_inv hf
        refine z_ref ea16 ?_
        refine lv_iload_n hx hb dX6_close_49 rfl (lv_at hl 2 rfl) ?_
        obtain ⟨hix, hf⟩ := zx_inv hf
        refine xg_15 hx hb hK hC hk_a16 hix dX6_close_50 ?_
        obtain ⟨a17, ea17, hk_a17, hf⟩ := zn_inv hf
        refine z_ref ea17 ?_
        obtain ⟨c20, hc18, hf⟩ := zb_inv hf
        refine z_cv (z_rV (As := [.ref a17]) (rest := []) ⟨hx, hb, hml, hown, hts⟩ (c_X6_losePitch (l := l) (D := D) (cy := cy) (base := base) (st := st) (K := K) (L := L) (c := c9) (r := r) (o := o) (z := z) th a17 hk_th hk_a17 hc18) (cwV 1 hts gX6_close_X6_losePitch rfl rfl rfl (by decide +kernel) ⟨Nat.le_of_ble_eq_true rfl, Nat.le_of_ble_eq_true rfl⟩) hG hC (zC.recv (ci := 6) (fs := _) hK hC (by rw [hk_th]; decide) (by rw [hk_th]; exact zc_6 cy _ _) rfl) rfl hl.1 rfl (lv_room (Nat.le_of_ble_eq_true rfl)) dX6_close_51 ⟨Nat.le_of_ble_eq_true rfl, Nat.le_of_ble_eq_true rfl⟩) hC (fun H locs hC => ?_)
        obtain ⟨x21, ex21, hf⟩ := zlet_inv hf
        refine lv_iinc (v := x21) (lv' := [(2, .int x21), (0, .ref th), (1, .int v1)]) hx hb dX6_close_54 hl (k := 2) rfl (by rw [ex21]; rfl) (by decide) rfl (fun ls hl => ?_)
        refine lv_goto (tgt := 39) hx hb dX6_close_57 (by decide) ?_
        exact ih39 _ _ _ _ v1 x21 hC (lv_sub hl [1, 2, 0] rfl) hf
  have L8 : ∀ (n8 : Nat) (c9 : zS) (H : Heap) (locs : List Loc) (ls : Array Slot) (v1 : Int32), zC D cy base K L (c9, r, o) s.heap H locs → lv_has ls 3 [(0, .ref th), (1, .int v1)] → f_X6_close_8 K z th n8 c9 v1 = some res → W p l e (headSpec wsX6_close ({ frames := 7, cells := 1, slots := 6, locals := 122 })).room s m ([.ref th] : List Value).toArray below meth cd H locs 1 6 (vx_MQ below (va_Qi (fun (rr : Int32) (u : zS) => res = .inl (rr, u)) (fun u => zB D cy base K L (u, r, o)) (zA base)) (vx_X (fun (x : Nat) => res = .inr x) (fun E x t => E = zE x ∧ zB D cy base K L (c, r, o) t) (zA base)) ([.ref th] : List Value).toArray s 1 6 (zA base)) (F0 m 8 ls []) := by
    intro n8
    induction n8 with
    | zero => intro c9 H locs ls v1 hC hl hf; rw [f_X6_close_8] at hf; cases hf
    | succ n8 ih8 =>
      intro c9 H locs ls v1 hC hl hf
      rw [f_X6_close_8] at hf
      refine lv_iload_n hx hb dX6_close_8 rfl (lv_at hl 1 rfl) ?_
      refine lv_aload_n hx hb dX6_close_9 rfl (lv_at hl 0 rfl) ?_
      refine zg_6_6 hx hb hts hi6 hown hK hC hk_th w0 dX6_close_10 ?_
      refine lv_icmp_ge (tgt := 32) hx hb dX6_close_13 (by decide) (fun h29 => ?_) (fun h29 => ?_)
      · have hf := zif_t hf h29
        refine lv_aload_n hx hb dX6_close_32 rfl (lv_at hl 0 rfl) ?_
        obtain ⟨x5, c6, hc4, hf⟩ := zb2_inv hf
        refine z_ci (z_rV (As := []) (rest := []) ⟨hx, hb, hml, hown, hts⟩ (c_X6_lineUpLosers (l := l) (D := D) (cy := cy) (base := base) (st := st) (K := K) (L := L) (c := c9) (r := r) (o := o) (z := z) th hk_th hc4) (cwV 0 hts gX6_close_X6_lineUpLosers rfl rfl rfl (by decide +kernel) ⟨Nat.le_of_ble_eq_true rfl, Nat.le_of_ble_eq_true rfl⟩) hG hC (zC.recv (ci := 6) (fs := _) hK hC (by rw [hk_th]; decide) (by rw [hk_th]; exact zc_6 cy _ _) rfl) rfl hl.1 rfl (lv_room (Nat.le_of_ble_eq_true rfl)) dX6_close_33 ⟨Nat.le_of_ble_eq_true rfl, Nat.le_of_ble_eq_true rfl⟩) hC (fun H locs hC => ?_)
        refine lv_istore_n (lv' := [(1, .int x5), (0, .ref th)]) hx hb dX6_close_36 rfl hl (by decide) rfl (fun ls hl => ?_)
        refine lv_iconst (v := 0) hx hb dX6_close_37 (by decide) ?_
        refine lv_istore_n (lv' := [(2, .int 0), (1, .int x5), (0, .ref th)]) hx hb dX6_close_38 rfl hl (by decide) rfl (fun ls hl => ?_)
        exact L39 z _ _ _ _ x5 0 hC (lv_sub hl [2, 1, 0] rfl) hf
      · have hf := zif_f hf h29
        refine lv_aload_n hx hb dX6_close_16 rfl (lv_at hl 0 rfl) ?_
        refine lv_aload_n hx hb dX6_close_17 rfl (lv_at hl 0 rfl) ?_
        refine zg_6_2 hx hb hts hi6 hown hK hC hk_th w2 dX6_close_18 ?_
        obtain ⟨a23, ea23, hk_a23, hf⟩ := zn_inv hf
        refine z_ref ea23 ?_
        refine lv_iload_n hx hb dX6_close_21 rfl (lv_at hl 1 rfl) ?_
        obtain ⟨hix, hf⟩ := zx_inv hf
        refine xg_13 hx hb hK hC hk_a23 hix dX6_close_22 ?_
        obtain ⟨a24, ea24, hk_a24, hf⟩ := zn_inv hf
        refine z_ref ea24 ?_
        obtain ⟨c27, hc25, hf⟩ := zb_inv hf
        refine z_cv (z_rV (As := [.ref a24]) (rest := []) ⟨hx, hb, hml, hown, hts⟩ (c_X6_writeUpDay (l := l) (D := D) (cy := cy) (base := base) (st := st) (K := K) (L := L) (c := c9) (r := r) (o := o) (z := z) th a24 hk_th hk_a24 hc25) (cwV 1 hts gX6_close_X6_writeUpDay rfl rfl rfl (by decide +kernel) ⟨Nat.le_of_ble_eq_true rfl, Nat.le_of_ble_eq_true rfl⟩) hG hC (zC.recv (ci := 6) (fs := _) hK hC (by rw [hk_th]; decide) (by rw [hk_th]; exact zc_6 cy _ _) rfl) rfl hl.1 rfl (lv_room (Nat.le_of_ble_eq_true rfl)) dX6_close_23 ⟨Nat.le_of_ble_eq_true rfl, Nat.le_of_ble_eq_true rfl⟩) hC (fun H locs hC => ?_)
        obtain ⟨x28, ex28, hf⟩ := zlet_inv hf
        refine lv_iinc (v := x28) (lv' := [(1, .int x28), (0, .ref th)]) hx hb dX6_close_26 hl (k := 1) rfl (by rw [ex28]; rfl) (by decide) rfl (fun ls hl => ?_)
        refine lv_goto (tgt := 8) hx hb dX6_close_29 (by decide) ?_
        exact ih8 _ _ _ _ x28 hC (lv_sub hl [1, 0] rfl) hf
  unfold f_X6_close at hf
  refine lv_aload_n hx hb dX6_close_0 rfl (lv_at hl 0 rfl) ?_
  refine lv_iconst (v := 3) hx hb dX6_close_1 (by decide) ?_
  refine lv_iconst (v := 3) hx hb dX6_close_2 (by decide) ?_
  obtain ⟨q3, hc1, hfn, hfx⟩ := zt_inv hf
  refine z_xcv (z_rxV (As := [.int 3, .int 3]) (rest := []) ⟨hx, hb, hml, hown, hts⟩ (c_X6_needTime (l := l) (D := D) (cy := cy) (base := base) (st := st) (K := K) (L := L) (c := c) (r := r) (o := o) (z := z) th 3 3 hk_th hst hc1) (cwV 2 hts gX6_close_X6_needTime rfl rfl rfl (by decide +kernel) ⟨Nat.le_of_ble_eq_true rfl, Nat.le_of_ble_eq_true rfl⟩) hG hC (zC.recv (ci := 6) (fs := _) hK hC (by rw [hk_th]; decide) (by rw [hk_th]; exact zc_6 cy _ _) rfl) rfl hl.1 rfl (lv_room (Nat.le_of_ble_eq_true rfl)) dX6_close_3 ⟨Nat.le_of_ble_eq_true rfl, Nat.le_of_ble_eq_true rfl⟩) hC (fun _ H locs q9 ce hq hC h1 h2 h3 => z_xout htab hlocks (hfx _ hq) hC h1 h2 h3 (Nat.le_of_ble_eq_true rfl) (Nat.le_of_ble_eq_true rfl)) (fun H locs hq hC => ?_)
  have hf := hfn _ hq
  refine lv_iconst (v := 0) hx hb dX6_close_6 (by decide) ?_
  refine lv_istore_n (lv' := [(1, .int 0), (0, .ref th)]) hx hb dX6_close_7 rfl hl (by decide) rfl (fun ls hl => ?_)
  exact L8 z _ _ _ _ 0 hC (lv_sub hl [1, 0] rfl) hf
def f_X6_day (K : Nat → Nat) (z : Nat) (c : zS) (th : Nat) (p1 : Int32) : Option ((Int32 × zS) ⊕ Nat) :=
  (if p1 < 0 then some (.inr 2) else (if p1 < 12 then zt (f_X6_needTime K z c th 0 0) fun u2 => zlet (zui c 130 th 0 p1) fun c4 => zlet (zui c4 131 th 0 0) fun c5 => zlet (zui c5 128 th 0 1) fun c6 => zlet (zi c6 129 th 0) fun x7 => zlet (zui c6 129 th 0 ((zi c6 129 th 0) + 1)) fun c8 => some (.inl (x7, c8)) else some (.inr 2)))
set_option maxRecDepth 100000 in
set_option maxHeartbeats 4000000 in
theorem c_X6_day {l : Launch} {D : va_G} {cy : Nat → ClassId} {base : Nat} {st : Nat → Nat} {K : Nat → Nat} {L : List Nat} {c r : zS} {o : Int64} {z : Nat} (th : Nat) (p1 : Int32) {res : (Int32 × zS) ⊕ Nat}  (hk_th : K th = 6) (hst : l.stackTraces = false) (hf : f_X6_day K z c th p1 = some res) : vx_Met l yX6_day wsX6_day ({ frames := 7, cells := 2, slots := 12, locals := 122 }) (va_Pc [.ref th, .int p1] (zGW zts0 zns0 D cy base st K L (c, r, o))) (va_Qi (fun (rr : Int32) (u : zS) => res = .inl (rr, u)) (fun u => zB D cy base K L (u, r, o)) (zA base)) (vx_X (fun (x : Nat) => res = .inr x) (fun E x t => E = zE x ∧ zB D cy base K L (c, r, o) t) (zA base)) 2 12 (zA base) := by
  refine vx_ofW (cc := cX6_day) (maxL := 3) (ret := (some .int)) (by decide) rfl ?_
  intro p e s m args below meth cd s₁ B hml htab hv
  obtain ⟨rfl, hG⟩ := hv
  have hx := B.exec
  have hb := B.bytes
  have hr := B.returns
  have hts := atoms_spec (ws := wsX6_day) B.pre
  have hown : s.vm.findClass RX6 = some m.cls := findClass_of_methodNamed B.named
  have hlocks := B.notSynchronized
  have hC := hG.enter
  have hK := hG.2.2.2.1
  have hi6 : ∀ w ∈ wsX60, w ∈ wsX6_day := by decide +kernel
  have w0 := hts (.classLink RX6 38 "java/lang/IllegalArgumentException") (by decide +kernel)
  have w1 := hts (.initialized "java/lang/IllegalArgumentException") (by decide +kernel)
  have w2 := hts (.fieldLink RX6 156 "MarketSquare" "month" "I") (by decide +kernel)
  have w3 := hts (.fieldLink RX6 159 "MarketSquare" "hour" "I") (by decide +kernel)
  have w4 := hts (.fieldLink RX6 162 "MarketSquare" "time" "I") (by decide +kernel)
  have w5 := hts (.fieldLink RX6 165 "MarketSquare" "days" "I") (by decide +kernel)
  have hl := lv_entry ([.ref th, .int p1]) (n := 3) (Nat.le_of_ble_eq_true rfl)
  rw [lg_entry_eq]
  generalize (lg_sl ([.ref th, .int p1]) ++ List.replicate (3 - (lg_sl ([.ref th, .int p1])).length) Slot.unset).toArray = ls at hl ⊢
  have hl : lv_has ls 3 [(0, .ref th), (1, .int p1)] := hl
  unfold f_X6_day at hf
  refine lv_iload_n hx hb dX6_day_0 rfl (lv_at hl 1 rfl) ?_
  refine lv_if_lt (tgt := 10) hx hb dX6_day_1 (by decide) (fun h10 => ?_) (fun h10 => ?_)
  · have hf := zif_t hf h10
    exact z_throw (own := RX6) (cls := "java/lang/IllegalArgumentException") (text := "a month is 0 to 11") (names := ["java/lang/RuntimeException", "java/lang/Exception"]) (ik := 38) (is := 154) (ic := 42) (k := 2) hx hb hst hown rfl rfl w0 w1 (hG.2.2.2.2.2.2.2.1 12 (RX6, 154, "a month is 0 to 11") rfl) (z_hat (ws := wsX6_day) hts (by decide +kernel) (by decide +kernel) (hG.2.2.2.2.2.2.2.2.2.1 _ (by decide +kernel)) hG.2.2.2.2.2.2.2.2.2.2.2.2) (by decide +kernel) hG hC hl.1 hml dX6_day_10 dX6_day_13 dX6_day_14 dX6_day_16 dX6_day_19 htab (Nat.le_of_ble_eq_true rfl) (Nat.le_of_ble_eq_true rfl) (Nat.le_of_ble_eq_true rfl) (Nat.le_of_ble_eq_true rfl) hlocks (Nat.le_of_ble_eq_true rfl) (Nat.le_of_ble_eq_true rfl) hf
  · have hf := zif_f hf h10
    refine lv_iload_n hx hb dX6_day_4 rfl (lv_at hl 1 rfl) ?_
    refine lv_bipush (v := 12) hx hb dX6_day_5 (by decide) ?_
    refine lv_icmp_lt (tgt := 20) hx hb dX6_day_7 (by decide) (fun h9 => ?_) (fun h9 => ?_)
    · have hf := zif_t hf h9
      refine lv_aload_n hx hb dX6_day_20 rfl (lv_at hl 0 rfl) ?_
      refine lv_iconst (v := 0) hx hb dX6_day_21 (by decide) ?_
      refine lv_iconst (v := 0) hx hb dX6_day_22 (by decide) ?_
      obtain ⟨q3, hc1, hfn, hfx⟩ := zt_inv hf
      refine z_xcv (z_rxV (As := [.int 0, .int 0]) (rest := []) ⟨hx, hb, hml, hown, hts⟩ (c_X6_needTime (l := l) (D := D) (cy := cy) (base := base) (st := st) (K := K) (L := L) (c := c) (r := r) (o := o) (z := z) th 0 0 hk_th hst hc1) (cwV 2 hts gX6_day_X6_needTime rfl rfl rfl (by decide +kernel) ⟨Nat.le_of_ble_eq_true rfl, Nat.le_of_ble_eq_true rfl⟩) hG hC (zC.recv (ci := 6) (fs := _) hK hC (by rw [hk_th]; decide) (by rw [hk_th]; exact zc_6 cy _ _) rfl) rfl hl.1 rfl (lv_room (Nat.le_of_ble_eq_true rfl)) dX6_day_23 ⟨Nat.le_of_ble_eq_true rfl, Nat.le_of_ble_eq_true rfl⟩) hC (fun _ H locs q9 ce hq hC h1 h2 h3 => z_xout htab hlocks (hfx _ hq) hC h1 h2 h3 (Nat.le_of_ble_eq_true rfl) (Nat.le_of_ble_eq_true rfl)) (fun H locs hq hC => ?_)
      have hf := hfn _ hq
      refine lv_aload_n hx hb dX6_day_26 rfl (lv_at hl 0 rfl) ?_
      refine lv_iload_n hx hb dX6_day_27 rfl (lv_at hl 1 rfl) ?_
      obtain ⟨c4, ec4, hf⟩ := zlet_inv hf
      refine zp_6_10 hx hb hts hi6 hown hK hC hk_th w2 ec4 dX6_day_28 (fun H locs hC => ?_)
      refine lv_aload_n hx hb dX6_day_31 rfl (lv_at hl 0 rfl) ?_
      refine lv_iconst (v := 0) hx hb dX6_day_32 (by decide) ?_
      obtain ⟨c5, ec5, hf⟩ := zlet_inv hf
      refine zp_6_11 hx hb hts hi6 hown hK hC hk_th w3 ec5 dX6_day_33 (fun H locs hC => ?_)
      refine lv_aload_n hx hb dX6_day_36 rfl (lv_at hl 0 rfl) ?_
      refine lv_iconst (v := 1) hx hb dX6_day_37 (by decide) ?_
      obtain ⟨c6, ec6, hf⟩ := zlet_inv hf
      refine zp_6_8 hx hb hts hi6 hown hK hC hk_th w4 ec6 dX6_day_38 (fun H locs hC => ?_)
      refine lv_aload_n hx hb dX6_day_41 rfl (lv_at hl 0 rfl) ?_
      refine zg_6_9 hx hb hts hi6 hown hK hC hk_th w5 dX6_day_42 ?_
      obtain ⟨x7, ex7, hf⟩ := zlet_inv hf
      refine z_name ex7 ?_
      refine lv_istore_n (lv' := [(2, .int x7), (0, .ref th), (1, .int p1)]) hx hb dX6_day_45 rfl hl (by decide) rfl (fun ls hl => ?_)
      refine lv_aload_n hx hb dX6_day_46 rfl (lv_at hl 1 rfl) ?_
      refine lv_dup hx hb dX6_day_47 rfl ?_
      refine zg_6_9 hx hb hts hi6 hown hK hC hk_th w5 dX6_day_48 ?_
      refine lv_iconst (v := 1) hx hb dX6_day_51 (by decide) ?_
      refine lv_iadd hx hb dX6_day_52 ?_
      obtain ⟨c8, ec8, hf⟩ := zlet_inv hf
      refine zp_6_9 hx hb hts hi6 hown hK hC hk_th w5 ec8 dX6_day_53 (fun H locs hC => ?_)
      refine lv_iload_n hx hb dX6_day_56 rfl (lv_at hl 0 rfl) ?_
      refine W.widen (k := 2) (n := 12) (Nat.le_of_ble_eq_true rfl) (Nat.le_of_ble_eq_true rfl) ?_
      exact z_xiretW (x := x7) hx hb hr hlocks hC hf dX6_day_57
    · have hf := zif_f hf h9
      exact z_throw (own := RX6) (cls := "java/lang/IllegalArgumentException") (text := "a month is 0 to 11") (names := ["java/lang/RuntimeException", "java/lang/Exception"]) (ik := 38) (is := 154) (ic := 42) (k := 2) hx hb hst hown rfl rfl w0 w1 (hG.2.2.2.2.2.2.2.1 12 (RX6, 154, "a month is 0 to 11") rfl) (z_hat (ws := wsX6_day) hts (by decide +kernel) (by decide +kernel) (hG.2.2.2.2.2.2.2.2.2.1 _ (by decide +kernel)) hG.2.2.2.2.2.2.2.2.2.2.2.2) (by decide +kernel) hG hC hl.1 hml dX6_day_10 dX6_day_13 dX6_day_14 dX6_day_16 dX6_day_19 htab (Nat.le_of_ble_eq_true rfl) (Nat.le_of_ble_eq_true rfl) (Nat.le_of_ble_eq_true rfl) (Nat.le_of_ble_eq_true rfl) hlocks (Nat.le_of_ble_eq_true rfl) (Nat.le_of_ble_eq_true rfl) hf
def f_X6_full_8 (K : Nat → Nat) (z : Nat) (c : zS) (th : Nat) : Nat → Int32 → Option (Int32 ⊕ Nat)
  | 0, _ => none
  | n + 1, v1 =>
    (if (zi c 126 th 0) ≤ v1 then some (.inl 1) else zn K (zr c 122 th 0) 13 fun a4 => zx v1 200 <| zn K (zr c 145 a4 (Int32.toNatClampNeg v1)) 4 fun a5 => zb (f_X4_isWaiting K z c a5) fun x7 => (if x7 = 0 then zlet (v1 + 1) fun x8 => f_X6_full_8 K z c th n x8 else zb (f_X6_goodSpot K z c th a5) fun x10 => (if x10 = (-1) then zlet (v1 + 1) fun x11 => f_X6_full_8 K z c th n x11 else some (.inl 0))))
def f_X6_full (K : Nat → Nat) (z : Nat) (c : zS) (th : Nat) : Option (Int32 ⊕ Nat) :=
  zt (f_X6_needTime K z c th 3 3) fun u2 => f_X6_full_8 K z c th z 0
set_option maxRecDepth 100000 in
set_option maxHeartbeats 4000000 in
theorem c_X6_full {l : Launch} {D : va_G} {cy : Nat → ClassId} {base : Nat} {st : Nat → Nat} {K : Nat → Nat} {L : List Nat} {c r : zS} {o : Int64} {z : Nat} (th : Nat) {res : Int32 ⊕ Nat}  (hk_th : K th = 6) (hst : l.stackTraces = false) (hf : f_X6_full K z c th = some res) : vx_Met l yX6_full wsX6_full ({ frames := 7, cells := 1, slots := 6, locals := 138 }) (va_Pc [.ref th] (zGW zts0 zns0 D cy base st K L (c, r, o))) (va_Qi (fun (rr : Int32) (u : Unit) => res = .inl rr) (fun u => zB D cy base K L (c, r, o)) (zA base)) (vx_X (fun (x : Nat) => res = .inr x) (fun E x t => E = zE x ∧ zB D cy base K L (c, r, o) t) (zA base)) 1 6 (zA base) := by
  refine vx_ofW (cc := cX6_full) (maxL := 3) (ret := (some .boolean)) (by decide) rfl ?_
  intro p e s m args below meth cd s₁ B hml htab hv
  obtain ⟨rfl, hG⟩ := hv
  have hx := B.exec
  have hb := B.bytes
  have hr := B.returns
  have hts := atoms_spec (ws := wsX6_full) B.pre
  have hown : s.vm.findClass RX6 = some m.cls := findClass_of_methodNamed B.named
  have hlocks := B.notSynchronized
  have hC := hG.enter
  have hK := hG.2.2.2.1
  have hi6 : ∀ w ∈ wsX60, w ∈ wsX6_full := by decide +kernel
  have w0 := hts (.fieldLink RX6 100 "MarketSquare" "traderCount" "I") (by decide +kernel)
  have w1 := hts (.fieldLink RX6 23 "MarketSquare" "traders" "[LMarketSquare$Trader;") (by decide +kernel)
  have hl := lv_entry ([.ref th]) (n := 3) (Nat.le_of_ble_eq_true rfl)
  rw [lg_entry_eq]
  generalize (lg_sl ([.ref th]) ++ List.replicate (3 - (lg_sl ([.ref th])).length) Slot.unset).toArray = ls at hl ⊢
  have hl : lv_has ls 3 [(0, .ref th)] := hl
  have L8 : ∀ (n8 : Nat) (H : Heap) (locs : List Loc) (ls : Array Slot) (v1 : Int32), zC D cy base K L (c, r, o) s.heap H locs → lv_has ls 3 [(0, .ref th), (1, .int v1)] → f_X6_full_8 K z c th n8 v1 = some res → W p l e (headSpec wsX6_full ({ frames := 7, cells := 1, slots := 6, locals := 138 })).room s m ([.ref th] : List Value).toArray below meth cd H locs 1 6 (vx_MQ below (va_Qi (fun (rr : Int32) (u : Unit) => res = .inl rr) (fun u => zB D cy base K L (c, r, o)) (zA base)) (vx_X (fun (x : Nat) => res = .inr x) (fun E x t => E = zE x ∧ zB D cy base K L (c, r, o) t) (zA base)) ([.ref th] : List Value).toArray s 1 6 (zA base)) (F0 m 8 ls []) := by
    intro n8
    induction n8 with
    | zero => intro H locs ls v1 hC hl hf; rw [f_X6_full_8] at hf; cases hf
    | succ n8 ih8 =>
      intro H locs ls v1 hC hl hf
      rw [f_X6_full_8] at hf
      refine lv_iload_n hx hb dX6_full_8 rfl (lv_at hl 1 rfl) ?_
      refine lv_aload_n hx hb dX6_full_9 rfl (lv_at hl 0 rfl) ?_
      refine zg_6_6 hx hb hts hi6 hown hK hC hk_th w0 dX6_full_10 ?_
      refine lv_icmp_ge (tgt := 47) hx hb dX6_full_13 (by decide) (fun h14 => ?_) (fun h14 => ?_)
      · have hf := zif_t hf h14
        refine lv_iconst (v := 1) hx hb dX6_full_47 (by decide) ?_
        refine W.widen (k := 1) (n := 6) (Nat.le_of_ble_eq_true rfl) (Nat.le_of_ble_eq_true rfl) ?_
        exact z_xzret hx hb hr hlocks hC (Or.inr rfl) hf dX6_full_48
      · have hf := zif_f hf h14
        refine lv_aload_n hx hb dX6_full_16 rfl (lv_at hl 0 rfl) ?_
        refine zg_6_2 hx hb hts hi6 hown hK hC hk_th w1 dX6_full_17 ?_
        obtain ⟨a4, ea4, hk_a4, hf⟩ := zn_inv hf
        refine z_ref ea4 ?_
        refine lv_iload_n hx hb dX6_full_20 rfl (lv_at hl 1 rfl) ?_
        obtain ⟨hix, hf⟩ := zx_inv hf
        refine xg_13 hx hb hK hC hk_a4 hix dX6_full_21 ?_
        obtain ⟨a5, ea5, hk_a5, hf⟩ := zn_inv hf
        refine z_ref ea5 ?_
        refine lv_astore_n (lv' := [(2, .ref a5), (0, .ref th), (1, .int v1)]) hx hb dX6_full_22 rfl hl (by decide) rfl (fun ls hl => ?_)
        refine lv_aload_n hx hb dX6_full_23 rfl (lv_at hl 0 rfl) ?_
        obtain ⟨x7, hc6, hf⟩ := zb_inv hf
        refine z_ci (z_rV (As := []) (rest := []) ⟨hx, hb, hml, hown, hts⟩ (c_X4_isWaiting (l := l) (D := D) (cy := cy) (base := base) (st := st) (K := K) (L := L) (c := c) (r := r) (o := o) (z := z) a5 hk_a5 hc6) (cwV 0 hts gX6_full_X4_isWaiting rfl rfl rfl (by decide +kernel) ⟨Nat.le_of_ble_eq_true rfl, Nat.le_of_ble_eq_true rfl⟩) hG hC (zC.recv (ci := 4) (fs := _) hK hC (by rw [hk_a5]; decide) (by rw [hk_a5]; exact zc_4 cy _ _) rfl) rfl hl.1 rfl (lv_room (Nat.le_of_ble_eq_true rfl)) dX6_full_24 ⟨Nat.le_of_ble_eq_true rfl, Nat.le_of_ble_eq_true rfl⟩) hC (fun H locs hC => ?_)
        refine lv_if_eq (tgt := 41) hx hb dX6_full_27 (by decide) (fun h13 => ?_) (fun h13 => ?_)
        · have hf := zif_t hf h13
          obtain ⟨x8, ex8, hf⟩ := zlet_inv hf
          refine lv_iinc (v := x8) (lv' := [(1, .int x8), (2, .ref a5), (0, .ref th)]) hx hb dX6_full_41 hl (k := 2) rfl (by rw [ex8]; rfl) (by decide) rfl (fun ls hl => ?_)
          refine lv_goto (tgt := 8) hx hb dX6_full_44 (by decide) ?_
          exact ih8 _ _ _ x8 hC (lv_sub hl [2, 0] rfl) hf
        · have hf := zif_f hf h13
          refine lv_aload_n hx hb dX6_full_30 rfl (lv_at hl 1 rfl) ?_
          refine lv_aload_n hx hb dX6_full_31 rfl (lv_at hl 0 rfl) ?_
          obtain ⟨x10, hc9, hf⟩ := zb_inv hf
          refine z_ci (z_rV (As := [.ref a5]) (rest := []) ⟨hx, hb, hml, hown, hts⟩ (c_X6_goodSpot (l := l) (D := D) (cy := cy) (base := base) (st := st) (K := K) (L := L) (c := c) (r := r) (o := o) (z := z) th a5 hk_th hk_a5 hc9) (cwV 1 hts gX6_full_X6_goodSpot rfl rfl rfl (by decide +kernel) ⟨Nat.le_of_ble_eq_true rfl, Nat.le_of_ble_eq_true rfl⟩) hG hC (zC.recv (ci := 6) (fs := _) hK hC (by rw [hk_th]; decide) (by rw [hk_th]; exact zc_6 cy _ _) rfl) rfl hl.1 rfl (lv_room (Nat.le_of_ble_eq_true rfl)) dX6_full_32 ⟨Nat.le_of_ble_eq_true rfl, Nat.le_of_ble_eq_true rfl⟩) hC (fun H locs hC => ?_)
          refine lv_iconst (v := (-1)) hx hb dX6_full_35 (by decide) ?_
          refine lv_icmp_eq (tgt := 41) hx hb dX6_full_36 (by decide) (fun h12 => ?_) (fun h12 => ?_)
          · have hf := zif_t hf h12
            obtain ⟨x11, ex11, hf⟩ := zlet_inv hf
            refine lv_iinc (v := x11) (lv' := [(1, .int x11), (2, .ref a5), (0, .ref th)]) hx hb dX6_full_41 hl (k := 2) rfl (by rw [ex11]; rfl) (by decide) rfl (fun ls hl => ?_)
            refine lv_goto (tgt := 8) hx hb dX6_full_44 (by decide) ?_
            exact ih8 _ _ _ x11 hC (lv_sub hl [2, 0] rfl) hf
          · have hf := zif_f hf h12
            refine lv_iconst (v := 0) hx hb dX6_full_39 (by decide) ?_
            refine W.widen (k := 1) (n := 6) (Nat.le_of_ble_eq_true rfl) (Nat.le_of_ble_eq_true rfl) ?_
            exact z_xzret hx hb hr hlocks hC (Or.inl rfl) hf dX6_full_40
  unfold f_X6_full at hf
  refine lv_aload_n hx hb dX6_full_0 rfl (lv_at hl 0 rfl) ?_
  refine lv_iconst (v := 3) hx hb dX6_full_1 (by decide) ?_
  refine lv_iconst (v := 3) hx hb dX6_full_2 (by decide) ?_
  obtain ⟨q3, hc1, hfn, hfx⟩ := zt_inv hf
  refine z_xcv (z_rxV (As := [.int 3, .int 3]) (rest := []) ⟨hx, hb, hml, hown, hts⟩ (c_X6_needTime (l := l) (D := D) (cy := cy) (base := base) (st := st) (K := K) (L := L) (c := c) (r := r) (o := o) (z := z) th 3 3 hk_th hst hc1) (cwV 2 hts gX6_full_X6_needTime rfl rfl rfl (by decide +kernel) ⟨Nat.le_of_ble_eq_true rfl, Nat.le_of_ble_eq_true rfl⟩) hG hC (zC.recv (ci := 6) (fs := _) hK hC (by rw [hk_th]; decide) (by rw [hk_th]; exact zc_6 cy _ _) rfl) rfl hl.1 rfl (lv_room (Nat.le_of_ble_eq_true rfl)) dX6_full_3 ⟨Nat.le_of_ble_eq_true rfl, Nat.le_of_ble_eq_true rfl⟩) hC (fun _ H locs q9 ce hq hC h1 h2 h3 => z_xout htab hlocks (hfx _ hq) hC h1 h2 h3 (Nat.le_of_ble_eq_true rfl) (Nat.le_of_ble_eq_true rfl)) (fun H locs hq hC => ?_)
  have hf := hfn _ hq
  refine lv_iconst (v := 0) hx hb dX6_full_6 (by decide) ?_
  refine lv_istore_n (lv' := [(1, .int 0), (0, .ref th)]) hx hb dX6_full_7 rfl hl (by decide) rfl (fun ls hl => ?_)
  exact L8 z _ _ _ 0 hC (lv_sub hl [1, 0] rfl) hf
def f_X6_good (K : Nat → Nat) (z : Nat) (c : zS) (th : Nat) (p1 : Int32) : Option (Int32 ⊕ Nat) :=
  zt (f_X6_knownTrader K z c th p1) fun o2 => zn K o2 4 fun a4 => zb (f_X6_goodSpot K z c th a4) fun x6 => some (.inl x6)
set_option maxRecDepth 100000 in
set_option maxHeartbeats 4000000 in
theorem c_X6_good {l : Launch} {D : va_G} {cy : Nat → ClassId} {base : Nat} {st : Nat → Nat} {K : Nat → Nat} {L : List Nat} {c r : zS} {o : Int64} {z : Nat} (th : Nat) (p1 : Int32) {res : Int32 ⊕ Nat}  (hk_th : K th = 6) (hst : l.stackTraces = false) (hf : f_X6_good K z c th p1 = some res) : vx_Met l yX6_good wsX6_good ({ frames := 7, cells := 1, slots := 6, locals := 138 }) (va_Pc [.ref th, .int p1] (zGW zts0 zns0 D cy base st K L (c, r, o))) (va_Qi (fun (rr : Int32) (u : Unit) => res = .inl rr) (fun u => zB D cy base K L (c, r, o)) (zA base)) (vx_X (fun (x : Nat) => res = .inr x) (fun E x t => E = zE x ∧ zB D cy base K L (c, r, o) t) (zA base)) 1 6 (zA base) := by
  refine vx_ofW (cc := cX6_good) (maxL := 2) (ret := (some .int)) (by decide) rfl ?_
  intro p e s m args below meth cd s₁ B hml htab hv
  obtain ⟨rfl, hG⟩ := hv
  have hx := B.exec
  have hb := B.bytes
  have hr := B.returns
  have hts := atoms_spec (ws := wsX6_good) B.pre
  have hown : s.vm.findClass RX6 = some m.cls := findClass_of_methodNamed B.named
  have hlocks := B.notSynchronized
  have hC := hG.enter
  have hK := hG.2.2.2.1
  have hl := lv_entry ([.ref th, .int p1]) (n := 2) (Nat.le_of_ble_eq_true rfl)
  rw [lg_entry_eq]
  generalize (lg_sl ([.ref th, .int p1]) ++ List.replicate (2 - (lg_sl ([.ref th, .int p1])).length) Slot.unset).toArray = ls at hl ⊢
  have hl : lv_has ls 2 [(0, .ref th), (1, .int p1)] := hl
  unfold f_X6_good at hf
  refine lv_aload_n hx hb dX6_good_0 rfl (lv_at hl 0 rfl) ?_
  refine lv_aload_n hx hb dX6_good_1 rfl (lv_at hl 0 rfl) ?_
  refine lv_iload_n hx hb dX6_good_2 rfl (lv_at hl 1 rfl) ?_
  obtain ⟨q3, hc1, hfn, hfx⟩ := zt_inv hf
  refine z_xcq (z_rxV (As := [.int p1]) (rest := [.ref th]) ⟨hx, hb, hml, hown, hts⟩ (c_X6_knownTrader (l := l) (D := D) (cy := cy) (base := base) (st := st) (K := K) (L := L) (c := c) (r := r) (o := o) (z := z) th p1 hk_th hst hc1) (cwV 1 hts gX6_good_X6_knownTrader rfl rfl rfl (by decide +kernel) ⟨Nat.le_of_ble_eq_true rfl, Nat.le_of_ble_eq_true rfl⟩) hG hC (zC.recv (ci := 6) (fs := _) hK hC (by rw [hk_th]; decide) (by rw [hk_th]; exact zc_6 cy _ _) rfl) rfl hl.1 rfl (lv_room (Nat.le_of_ble_eq_true rfl)) dX6_good_3 ⟨Nat.le_of_ble_eq_true rfl, Nat.le_of_ble_eq_true rfl⟩) hC (fun _ H locs q9 ce hq hC h1 h2 h3 => z_xout htab hlocks (hfx _ hq) hC h1 h2 h3 (Nat.le_of_ble_eq_true rfl) (Nat.le_of_ble_eq_true rfl)) (fun o2 H locs hq hC => ?_)
  have hf := hfn _ hq
  obtain ⟨a4, ea4, hk_a4, hf⟩ := zn_inv hf
  refine z_ref ea4 ?_
  obtain ⟨x6, hc5, hf⟩ := zb_inv hf
  refine z_ci (z_rV (As := [.ref a4]) (rest := []) ⟨hx, hb, hml, hown, hts⟩ (c_X6_goodSpot (l := l) (D := D) (cy := cy) (base := base) (st := st) (K := K) (L := L) (c := c) (r := r) (o := o) (z := z) th a4 hk_th hk_a4 hc5) (cwV 1 hts gX6_good_X6_goodSpot rfl rfl rfl (by decide +kernel) ⟨Nat.le_of_ble_eq_true rfl, Nat.le_of_ble_eq_true rfl⟩) hG hC (zC.recv (ci := 6) (fs := _) hK hC (by rw [hk_th]; decide) (by rw [hk_th]; exact zc_6 cy _ _) rfl) rfl hl.1 rfl (lv_room (Nat.le_of_ble_eq_true rfl)) dX6_good_6 ⟨Nat.le_of_ble_eq_true rfl, Nat.le_of_ble_eq_true rfl⟩) hC (fun H locs hC => ?_)
  refine W.widen (k := 1) (n := 6) (Nat.le_of_ble_eq_true rfl) (Nat.le_of_ble_eq_true rfl) ?_
  exact z_xiret (x := x6) hx hb hr hlocks hC hf dX6_good_9
def f_X6_hour (K : Nat → Nat) (z : Nat) (c : zS) (th : Nat) (p1 : Int32) : Option (zS ⊕ Nat) :=
  (if p1 < (zi c 131 th 0) then some (.inr 2) else (if p1 ≤ 12 then zt (f_X6_needTime K z c th 1 3) fun u2 => zlet (zui c 131 th 0 p1) fun c4 => some (.inl c4) else some (.inr 2)))
set_option maxRecDepth 100000 in
set_option maxHeartbeats 4000000 in
theorem c_X6_hour {l : Launch} {D : va_G} {cy : Nat → ClassId} {base : Nat} {st : Nat → Nat} {K : Nat → Nat} {L : List Nat} {c r : zS} {o : Int64} {z : Nat} (th : Nat) (p1 : Int32) {res : zS ⊕ Nat}  (hk_th : K th = 6) (hst : l.stackTraces = false) (hf : f_X6_hour K z c th p1 = some res) : vx_Met l yX6_hour wsX6_hour ({ frames := 7, cells := 2, slots := 12, locals := 122 }) (va_Pc [.ref th, .int p1] (zGW zts0 zns0 D cy base st K L (c, r, o))) (va_Qv (fun (u : zS) => res = .inl u) (fun u => zB D cy base K L (u, r, o)) (zA base)) (vx_X (fun (x : Nat) => res = .inr x) (fun E x t => E = zE x ∧ zB D cy base K L (c, r, o) t) (zA base)) 2 12 (zA base) := by
  refine vx_ofW (cc := cX6_hour) (maxL := 2) (ret := none) (by decide) rfl ?_
  intro p e s m args below meth cd s₁ B hml htab hv
  obtain ⟨rfl, hG⟩ := hv
  have hx := B.exec
  have hb := B.bytes
  have hr := B.returns
  have hts := atoms_spec (ws := wsX6_hour) B.pre
  have hown : s.vm.findClass RX6 = some m.cls := findClass_of_methodNamed B.named
  have hlocks := B.notSynchronized
  have hC := hG.enter
  have hK := hG.2.2.2.1
  have hi6 : ∀ w ∈ wsX60, w ∈ wsX6_hour := by decide +kernel
  have w0 := hts (.fieldLink RX6 159 "MarketSquare" "hour" "I") (by decide +kernel)
  have w1 := hts (.classLink RX6 38 "java/lang/IllegalArgumentException") (by decide +kernel)
  have w2 := hts (.initialized "java/lang/IllegalArgumentException") (by decide +kernel)
  have hl := lv_entry ([.ref th, .int p1]) (n := 2) (Nat.le_of_ble_eq_true rfl)
  rw [lg_entry_eq]
  generalize (lg_sl ([.ref th, .int p1]) ++ List.replicate (2 - (lg_sl ([.ref th, .int p1])).length) Slot.unset).toArray = ls at hl ⊢
  have hl : lv_has ls 2 [(0, .ref th), (1, .int p1)] := hl
  unfold f_X6_hour at hf
  refine lv_iload_n hx hb dX6_hour_0 rfl (lv_at hl 1 rfl) ?_
  refine lv_aload_n hx hb dX6_hour_1 rfl (lv_at hl 0 rfl) ?_
  refine zg_6_11 hx hb hts hi6 hown hK hC hk_th w0 dX6_hour_2 ?_
  refine lv_icmp_lt (tgt := 14) hx hb dX6_hour_5 (by decide) (fun h6 => ?_) (fun h6 => ?_)
  · have hf := zif_t hf h6
    exact z_throw (own := RX6) (cls := "java/lang/IllegalArgumentException") (text := "an hour is not below the one before, nor above 12") (names := ["java/lang/RuntimeException", "java/lang/Exception"]) (ik := 38) (is := 184) (ic := 42) (k := 2) hx hb hst hown rfl rfl w1 w2 (hG.2.2.2.2.2.2.2.1 13 (RX6, 184, "an hour is not below the one before, nor above 12") rfl) (z_hat (ws := wsX6_hour) hts (by decide +kernel) (by decide +kernel) (hG.2.2.2.2.2.2.2.2.2.1 _ (by decide +kernel)) hG.2.2.2.2.2.2.2.2.2.2.2.2) (by decide +kernel) hG hC hl.1 hml dX6_hour_14 dX6_hour_17 dX6_hour_18 dX6_hour_20 dX6_hour_23 htab (Nat.le_of_ble_eq_true rfl) (Nat.le_of_ble_eq_true rfl) (Nat.le_of_ble_eq_true rfl) (Nat.le_of_ble_eq_true rfl) hlocks (Nat.le_of_ble_eq_true rfl) (Nat.le_of_ble_eq_true rfl) hf
  · have hf := zif_f hf h6
    refine lv_iload_n hx hb dX6_hour_8 rfl (lv_at hl 1 rfl) ?_
    refine lv_bipush (v := 12) hx hb dX6_hour_9 (by decide) ?_
    refine lv_icmp_le (tgt := 24) hx hb dX6_hour_11 (by decide) (fun h5 => ?_) (fun h5 => ?_)
    · have hf := zif_t hf h5
      refine lv_aload_n hx hb dX6_hour_24 rfl (lv_at hl 0 rfl) ?_
      refine lv_iconst (v := 1) hx hb dX6_hour_25 (by decide) ?_
      refine lv_iconst (v := 3) hx hb dX6_hour_26 (by decide) ?_
      obtain ⟨q3, hc1, hfn, hfx⟩ := zt_inv hf
      refine z_xcv (z_rxV (As := [.int 1, .int 3]) (rest := []) ⟨hx, hb, hml, hown, hts⟩ (c_X6_needTime (l := l) (D := D) (cy := cy) (base := base) (st := st) (K := K) (L := L) (c := c) (r := r) (o := o) (z := z) th 1 3 hk_th hst hc1) (cwV 2 hts gX6_hour_X6_needTime rfl rfl rfl (by decide +kernel) ⟨Nat.le_of_ble_eq_true rfl, Nat.le_of_ble_eq_true rfl⟩) hG hC (zC.recv (ci := 6) (fs := _) hK hC (by rw [hk_th]; decide) (by rw [hk_th]; exact zc_6 cy _ _) rfl) rfl hl.1 rfl (lv_room (Nat.le_of_ble_eq_true rfl)) dX6_hour_27 ⟨Nat.le_of_ble_eq_true rfl, Nat.le_of_ble_eq_true rfl⟩) hC (fun _ H locs q9 ce hq hC h1 h2 h3 => z_xout htab hlocks (hfx _ hq) hC h1 h2 h3 (Nat.le_of_ble_eq_true rfl) (Nat.le_of_ble_eq_true rfl)) (fun H locs hq hC => ?_)
      have hf := hfn _ hq
      refine lv_aload_n hx hb dX6_hour_30 rfl (lv_at hl 0 rfl) ?_
      refine lv_iload_n hx hb dX6_hour_31 rfl (lv_at hl 1 rfl) ?_
      obtain ⟨c4, ec4, hf⟩ := zlet_inv hf
      refine zp_6_11 hx hb hts hi6 hown hK hC hk_th w0 ec4 dX6_hour_32 (fun H locs hC => ?_)
      refine W.widen (k := 2) (n := 12) (Nat.le_of_ble_eq_true rfl) (Nat.le_of_ble_eq_true rfl) ?_
      exact z_xvretW hx hb hr hlocks hC hf dX6_hour_35
    · have hf := zif_f hf h5
      exact z_throw (own := RX6) (cls := "java/lang/IllegalArgumentException") (text := "an hour is not below the one before, nor above 12") (names := ["java/lang/RuntimeException", "java/lang/Exception"]) (ik := 38) (is := 184) (ic := 42) (k := 2) hx hb hst hown rfl rfl w1 w2 (hG.2.2.2.2.2.2.2.1 13 (RX6, 184, "an hour is not below the one before, nor above 12") rfl) (z_hat (ws := wsX6_hour) hts (by decide +kernel) (by decide +kernel) (hG.2.2.2.2.2.2.2.2.2.1 _ (by decide +kernel)) hG.2.2.2.2.2.2.2.2.2.2.2.2) (by decide +kernel) hG hC hl.1 hml dX6_hour_14 dX6_hour_17 dX6_hour_18 dX6_hour_20 dX6_hour_23 htab (Nat.le_of_ble_eq_true rfl) (Nat.le_of_ble_eq_true rfl) (Nat.le_of_ble_eq_true rfl) (Nat.le_of_ble_eq_true rfl) hlocks (Nat.le_of_ble_eq_true rfl) (Nat.le_of_ble_eq_true rfl) hf
def f_X6_knownRow (K : Nat → Nat) (z : Nat) (c : zS) (th : Nat) (p1 : Int32) : Option ((Option Nat) ⊕ Nat) :=
  zb (f_X6_rowOrNull K z c th p1) fun o2 => zo K o2 0 (some (.inr 1)) fun a3 => some (.inl (some a3))
set_option maxRecDepth 100000 in
set_option maxHeartbeats 4000000 in
theorem c_X6_knownRow {l : Launch} {D : va_G} {cy : Nat → ClassId} {base : Nat} {st : Nat → Nat} {K : Nat → Nat} {L : List Nat} {c r : zS} {o : Int64} {z : Nat} (th : Nat) (p1 : Int32) {res : (Option Nat) ⊕ Nat}  (hk_th : K th = 6) (hst : l.stackTraces = false) (hf : f_X6_knownRow K z c th p1 = some res) : vx_Met l yX6_knownRow wsX6_knownRow ({ frames := 6, cells := 1, slots := 6, locals := 100 }) (va_Pc [.ref th, .int p1] (zGW zts0 zns0 D cy base st K L (c, r, o))) (va_Qq (fun (rr : Option Nat) (u : Unit) => res = .inl rr) (fun u => zB D cy base K L (c, r, o)) (zA base)) (vx_X (fun (x : Nat) => res = .inr x) (fun E x t => E = zE x ∧ zB D cy base K L (c, r, o) t) (zA base)) 1 6 (zA base) := by
  refine vx_ofW (cc := cX6_knownRow) (maxL := 3) (ret := (some (.object "MarketSquare$Row"))) (by decide) rfl ?_
  intro p e s m args below meth cd s₁ B hml htab hv
  obtain ⟨rfl, hG⟩ := hv
  have hx := B.exec
  have hb := B.bytes
  have hr := B.returns
  have hts := atoms_spec (ws := wsX6_knownRow) B.pre
  have hown : s.vm.findClass RX6 = some m.cls := findClass_of_methodNamed B.named
  have hlocks := B.notSynchronized
  have hC := hG.enter
  have hK := hG.2.2.2.1
  have w0 := hts (.classLink RX6 57 "java/lang/IndexOutOfBoundsException") (by decide +kernel)
  have w1 := hts (.initialized "java/lang/IndexOutOfBoundsException") (by decide +kernel)
  have hl := lv_entry ([.ref th, .int p1]) (n := 3) (Nat.le_of_ble_eq_true rfl)
  rw [lg_entry_eq]
  generalize (lg_sl ([.ref th, .int p1]) ++ List.replicate (3 - (lg_sl ([.ref th, .int p1])).length) Slot.unset).toArray = ls at hl ⊢
  have hl : lv_has ls 3 [(0, .ref th), (1, .int p1)] := hl
  unfold f_X6_knownRow at hf
  refine lv_aload_n hx hb dX6_knownRow_0 rfl (lv_at hl 0 rfl) ?_
  refine lv_iload_n hx hb dX6_knownRow_1 rfl (lv_at hl 1 rfl) ?_
  obtain ⟨o2, hc1, hf⟩ := zb_inv hf
  refine z_cq (z_rV (As := [.int p1]) (rest := []) ⟨hx, hb, hml, hown, hts⟩ (c_X6_rowOrNull (l := l) (D := D) (cy := cy) (base := base) (st := st) (K := K) (L := L) (c := c) (r := r) (o := o) (z := z) th p1 hk_th hc1) (cwV 1 hts gX6_knownRow_X6_rowOrNull rfl rfl rfl (by decide +kernel) ⟨Nat.le_of_ble_eq_true rfl, Nat.le_of_ble_eq_true rfl⟩) hG hC (zC.recv (ci := 6) (fs := _) hK hC (by rw [hk_th]; decide) (by rw [hk_th]; exact zc_6 cy _ _) rfl) rfl hl.1 rfl (lv_room (Nat.le_of_ble_eq_true rfl)) dX6_knownRow_2 ⟨Nat.le_of_ble_eq_true rfl, Nat.le_of_ble_eq_true rfl⟩) hC (fun H locs hC => ?_)
  refine z_astore_n (lv' := [(2, va_rf o2), (0, .ref th), (1, .int p1)]) hx hb dX6_knownRow_5 rfl hl (by decide) rfl (fun ls hl => ?_)
  refine z_aload_n hx hb dX6_knownRow_6 rfl (lv_at hl 0 rfl) ?_
  rcases zo_inv hf with ⟨e0, hf0⟩ | ⟨a3, e0, hk_a3, hf0⟩
  · subst e0; have hf := hf0
    have hl : lv_has ls 3 [(2, .null), (0, .ref th), (1, .int p1)] := hl
    refine lv_ifnonnullN hx hb dX6_knownRow_7 ?_
    exact z_throwW (own := RX6) (cls := "java/lang/IndexOutOfBoundsException") (text := "no such row") (names := ["java/lang/RuntimeException", "java/lang/Exception"]) (ik := 57) (is := 333) (ic := 61) (k := 1) hx hb hst hown rfl rfl w0 w1 (hG.2.2.2.2.2.2.2.1 17 (RX6, 333, "no such row") rfl) (z_hat (ws := wsX6_knownRow) hts (by decide +kernel) (by decide +kernel) (hG.2.2.2.2.2.2.2.2.2.1 _ (by decide +kernel)) hG.2.2.2.2.2.2.2.2.2.2.2.2) (by decide +kernel) hG hC hl.1 hml dX6_knownRow_10 dX6_knownRow_13 dX6_knownRow_14 dX6_knownRow_17 dX6_knownRow_20 htab (Nat.le_of_ble_eq_true rfl) (Nat.le_of_ble_eq_true rfl) (Nat.le_of_ble_eq_true rfl) (Nat.le_of_ble_eq_true rfl) hlocks (Nat.le_of_ble_eq_true rfl) (Nat.le_of_ble_eq_true rfl) hf
  · subst e0; have hf := hf0
    have hl : lv_has ls 3 [(2, .ref a3), (0, .ref th), (1, .int p1)] := hl
    refine lv_ifnonnull (tgt := 21) hx hb dX6_knownRow_7 (by decide) ?_
    refine lv_aload_n hx hb dX6_knownRow_21 rfl (lv_at hl 0 rfl) ?_
    refine W.widen (k := 1) (n := 6) (Nat.le_of_ble_eq_true rfl) (Nat.le_of_ble_eq_true rfl) ?_
    exact z_xqret (x := (some a3)) hx hb hr hlocks hC hf dX6_knownRow_22
def f_X6_row (K : Nat → Nat) (z : Nat) (c : zS) (th : Nat) (p1 : Int32) (p2 : Int32) : Option (zS ⊕ Nat) :=
  zt (f_X6_knownRow K z c th p1) fun o2 => zn K o2 0 fun a4 => (if p2 < 0 then some (.inr 2) else (if p2 ≤ 200 then zt (f_X6_needTime K z c th 0 0) fun u6 => zb (f_X0_lay K z c a4 p2) fun c10 => some (.inl c10) else some (.inr 2)))
set_option maxRecDepth 100000 in
set_option maxHeartbeats 4000000 in
theorem c_X6_row {l : Launch} {D : va_G} {cy : Nat → ClassId} {base : Nat} {st : Nat → Nat} {K : Nat → Nat} {L : List Nat} {c r : zS} {o : Int64} {z : Nat} (th : Nat) (p1 : Int32) (p2 : Int32) {res : zS ⊕ Nat}  (hk_th : K th = 6) (hst : l.stackTraces = false) (hf : f_X6_row K z c th p1 p2 = some res) : vx_Met l yX6_row wsX6_row ({ frames := 7, cells := 3, slots := 18, locals := 122 }) (va_Pc [.ref th, .int p1, .int p2] (zGW zts0 zns0 D cy base st K L (c, r, o))) (va_Qv (fun (u : zS) => res = .inl u) (fun u => zB D cy base K L (u, r, o)) (zA base)) (vx_X (fun (x : Nat) => res = .inr x) (fun E x t => E = zE x ∧ zB D cy base K L (c, r, o) t) (zA base)) 3 18 (zA base) := by
  refine vx_ofW (cc := cX6_row) (maxL := 4) (ret := none) (by decide) rfl ?_
  intro p e s m args below meth cd s₁ B hml htab hv
  obtain ⟨rfl, hG⟩ := hv
  have hx := B.exec
  have hb := B.bytes
  have hr := B.returns
  have hts := atoms_spec (ws := wsX6_row) B.pre
  have hown : s.vm.findClass RX6 = some m.cls := findClass_of_methodNamed B.named
  have hlocks := B.notSynchronized
  have hC := hG.enter
  have hK := hG.2.2.2.1
  have w0 := hts (.classLink RX6 38 "java/lang/IllegalArgumentException") (by decide +kernel)
  have w1 := hts (.initialized "java/lang/IllegalArgumentException") (by decide +kernel)
  have hl := lv_entry ([.ref th, .int p1, .int p2]) (n := 4) (Nat.le_of_ble_eq_true rfl)
  rw [lg_entry_eq]
  generalize (lg_sl ([.ref th, .int p1, .int p2]) ++ List.replicate (4 - (lg_sl ([.ref th, .int p1, .int p2])).length) Slot.unset).toArray = ls at hl ⊢
  have hl : lv_has ls 4 [(0, .ref th), (1, .int p1), (2, .int p2)] := hl
  unfold f_X6_row at hf
  refine lv_aload_n hx hb dX6_row_0 rfl (lv_at hl 0 rfl) ?_
  refine lv_iload_n hx hb dX6_row_1 rfl (lv_at hl 1 rfl) ?_
  obtain ⟨q3, hc1, hfn, hfx⟩ := zt_inv hf
  refine z_xcq (z_rxV (As := [.int p1]) (rest := []) ⟨hx, hb, hml, hown, hts⟩ (c_X6_knownRow (l := l) (D := D) (cy := cy) (base := base) (st := st) (K := K) (L := L) (c := c) (r := r) (o := o) (z := z) th p1 hk_th hst hc1) (cwV 1 hts gX6_row_X6_knownRow rfl rfl rfl (by decide +kernel) ⟨Nat.le_of_ble_eq_true rfl, Nat.le_of_ble_eq_true rfl⟩) hG hC (zC.recv (ci := 6) (fs := _) hK hC (by rw [hk_th]; decide) (by rw [hk_th]; exact zc_6 cy _ _) rfl) rfl hl.1 rfl (lv_room (Nat.le_of_ble_eq_true rfl)) dX6_row_2 ⟨Nat.le_of_ble_eq_true rfl, Nat.le_of_ble_eq_true rfl⟩) hC (fun _ H locs q9 ce hq hC h1 h2 h3 => z_xout htab hlocks (hfx _ hq) hC h1 h2 h3 (Nat.le_of_ble_eq_true rfl) (Nat.le_of_ble_eq_true rfl)) (fun o2 H locs hq hC => ?_)
  have hf := hfn _ hq
  obtain ⟨a4, ea4, hk_a4, hf⟩ := zn_inv hf
  refine z_ref ea4 ?_
  refine lv_astore_n (lv' := [(3, .ref a4), (0, .ref th), (1, .int p1), (2, .int p2)]) hx hb dX6_row_5 rfl hl (by decide) rfl (fun ls hl => ?_)
  refine lv_iload_n hx hb dX6_row_6 rfl (lv_at hl 3 rfl) ?_
  refine lv_if_lt (tgt := 17) hx hb dX6_row_7 (by decide) (fun h12 => ?_) (fun h12 => ?_)
  · have hf := zif_t hf h12
    exact z_throw (own := RX6) (cls := "java/lang/IllegalArgumentException") (text := "a row has 0 to 200 places") (names := ["java/lang/RuntimeException", "java/lang/Exception"]) (ik := 38) (is := 40) (ic := 42) (k := 2) hx hb hst hown rfl rfl w0 w1 (hG.2.2.2.2.2.2.2.1 0 (RX6, 40, "a row has 0 to 200 places") rfl) (z_hat (ws := wsX6_row) hts (by decide +kernel) (by decide +kernel) (hG.2.2.2.2.2.2.2.2.2.1 _ (by decide +kernel)) hG.2.2.2.2.2.2.2.2.2.2.2.2) (by decide +kernel) hG hC hl.1 hml dX6_row_17 dX6_row_20 dX6_row_21 dX6_row_23 dX6_row_26 htab (Nat.le_of_ble_eq_true rfl) (Nat.le_of_ble_eq_true rfl) (Nat.le_of_ble_eq_true rfl) (Nat.le_of_ble_eq_true rfl) hlocks (Nat.le_of_ble_eq_true rfl) (Nat.le_of_ble_eq_true rfl) hf
  · have hf := zif_f hf h12
    refine lv_iload_n hx hb dX6_row_10 rfl (lv_at hl 3 rfl) ?_
    refine lv_sipush (v := 200) hx hb dX6_row_11 (by decide) ?_
    refine lv_icmp_le (tgt := 27) hx hb dX6_row_14 (by decide) (fun h11 => ?_) (fun h11 => ?_)
    · have hf := zif_t hf h11
      refine lv_aload_n hx hb dX6_row_27 rfl (lv_at hl 1 rfl) ?_
      refine lv_iconst (v := 0) hx hb dX6_row_28 (by decide) ?_
      refine lv_iconst (v := 0) hx hb dX6_row_29 (by decide) ?_
      obtain ⟨q7, hc5, hfn, hfx⟩ := zt_inv hf
      refine z_xcv (z_rxV (As := [.int 0, .int 0]) (rest := []) ⟨hx, hb, hml, hown, hts⟩ (c_X6_needTime (l := l) (D := D) (cy := cy) (base := base) (st := st) (K := K) (L := L) (c := c) (r := r) (o := o) (z := z) th 0 0 hk_th hst hc5) (cwV 2 hts gX6_row_X6_needTime rfl rfl rfl (by decide +kernel) ⟨Nat.le_of_ble_eq_true rfl, Nat.le_of_ble_eq_true rfl⟩) hG hC (zC.recv (ci := 6) (fs := _) hK hC (by rw [hk_th]; decide) (by rw [hk_th]; exact zc_6 cy _ _) rfl) rfl hl.1 rfl (lv_room (Nat.le_of_ble_eq_true rfl)) dX6_row_30 ⟨Nat.le_of_ble_eq_true rfl, Nat.le_of_ble_eq_true rfl⟩) hC (fun _ H locs q9 ce hq hC h1 h2 h3 => z_xout htab hlocks (hfx _ hq) hC h1 h2 h3 (Nat.le_of_ble_eq_true rfl) (Nat.le_of_ble_eq_true rfl)) (fun H locs hq hC => ?_)
      have hf := hfn _ hq
      refine lv_aload_n hx hb dX6_row_33 rfl (lv_at hl 0 rfl) ?_
      refine lv_iload_n hx hb dX6_row_34 rfl (lv_at hl 3 rfl) ?_
      obtain ⟨c10, hc8, hf⟩ := zb_inv hf
      refine z_cv (z_rV (As := [.int p2]) (rest := []) ⟨hx, hb, hml, hown, hts⟩ (c_X0_lay (l := l) (D := D) (cy := cy) (base := base) (st := st) (K := K) (L := L) (c := c) (r := r) (o := o) (z := z) a4 p2 hk_a4 hc8) (cwV 1 hts gX6_row_X0_lay rfl rfl rfl (by decide +kernel) ⟨Nat.le_of_ble_eq_true rfl, Nat.le_of_ble_eq_true rfl⟩) hG hC (zC.recv (ci := 0) (fs := _) hK hC (by rw [hk_a4]; decide) (by rw [hk_a4]; exact zc_0 cy _ _) rfl) rfl hl.1 rfl (lv_room (Nat.le_of_ble_eq_true rfl)) dX6_row_35 ⟨Nat.le_of_ble_eq_true rfl, Nat.le_of_ble_eq_true rfl⟩) hC (fun H locs hC => ?_)
      refine W.widen (k := 3) (n := 18) (Nat.le_of_ble_eq_true rfl) (Nat.le_of_ble_eq_true rfl) ?_
      exact z_xvretW hx hb hr hlocks hC hf dX6_row_38
    · have hf := zif_f hf h11
      exact z_throw (own := RX6) (cls := "java/lang/IllegalArgumentException") (text := "a row has 0 to 200 places") (names := ["java/lang/RuntimeException", "java/lang/Exception"]) (ik := 38) (is := 40) (ic := 42) (k := 2) hx hb hst hown rfl rfl w0 w1 (hG.2.2.2.2.2.2.2.1 0 (RX6, 40, "a row has 0 to 200 places") rfl) (z_hat (ws := wsX6_row) hts (by decide +kernel) (by decide +kernel) (hG.2.2.2.2.2.2.2.2.2.1 _ (by decide +kernel)) hG.2.2.2.2.2.2.2.2.2.2.2.2) (by decide +kernel) hG hC hl.1 hml dX6_row_17 dX6_row_20 dX6_row_21 dX6_row_23 dX6_row_26 htab (Nat.le_of_ble_eq_true rfl) (Nat.le_of_ble_eq_true rfl) (Nat.le_of_ble_eq_true rfl) (Nat.le_of_ble_eq_true rfl) hlocks (Nat.le_of_ble_eq_true rfl) (Nat.le_of_ble_eq_true rfl) hf
def f_X6_mark (K : Nat → Nat) (z : Nat) (c : zS) (th : Nat) (p1 : Int32) (p2 : Int32) (p3 : Int32) (p4 : Int32) : Option ((Int32 × zS) ⊕ Nat) :=
  zt (f_X6_knownRow K z c th p1) fun o2 => zn K o2 0 fun a4 => zb (f_X0_has K z c a4 p2) fun x6 => (if x6 = 0 then some (.inr 1) else (if p3 < 0 then some (.inr 2) else (if p3 ≤ 2 then zt (f_X6_needTime K z c th 0 0) fun u8 => zb2 (f_X0_setMark K z c a4 p2 ((1 : Int32) <<< (p3 &&& 31)) p4) fun x11 c12 => zz x11 <| some (.inl (x11, c12)) else some (.inr 2))))
set_option maxRecDepth 100000 in
set_option maxHeartbeats 4000000 in
theorem c_X6_mark {l : Launch} {D : va_G} {cy : Nat → ClassId} {base : Nat} {st : Nat → Nat} {K : Nat → Nat} {L : List Nat} {c r : zS} {o : Int64} {z : Nat} (th : Nat) (p1 : Int32) (p2 : Int32) (p3 : Int32) (p4 : Int32) {res : (Int32 × zS) ⊕ Nat}  (hk_th : K th = 6) (hst : l.stackTraces = false) (hf : f_X6_mark K z c th p1 p2 p3 p4 = some res) : vx_Met l yX6_mark wsX6_mark ({ frames := 7, cells := 3, slots := 18, locals := 122 }) (va_Pc [.ref th, .int p1, .int p2, .int p3, .int p4] (zGW zts0 zns0 D cy base st K L (c, r, o))) (va_Qi (fun (rr : Int32) (u : zS) => res = .inl (rr, u)) (fun u => zB D cy base K L (u, r, o)) (zA base)) (vx_X (fun (x : Nat) => res = .inr x) (fun E x t => E = zE x ∧ zB D cy base K L (c, r, o) t) (zA base)) 3 18 (zA base) := by
  refine vx_ofW (cc := cX6_mark) (maxL := 6) (ret := (some .boolean)) (by decide) rfl ?_
  intro p e s m args below meth cd s₁ B hml htab hv
  obtain ⟨rfl, hG⟩ := hv
  have hx := B.exec
  have hb := B.bytes
  have hr := B.returns
  have hts := atoms_spec (ws := wsX6_mark) B.pre
  have hown : s.vm.findClass RX6 = some m.cls := findClass_of_methodNamed B.named
  have hlocks := B.notSynchronized
  have hC := hG.enter
  have hK := hG.2.2.2.1
  have w0 := hts (.classLink RX6 38 "java/lang/IllegalArgumentException") (by decide +kernel)
  have w1 := hts (.initialized "java/lang/IllegalArgumentException") (by decide +kernel)
  have w2 := hts (.classLink RX6 57 "java/lang/IndexOutOfBoundsException") (by decide +kernel)
  have w3 := hts (.initialized "java/lang/IndexOutOfBoundsException") (by decide +kernel)
  have hl := lv_entry ([.ref th, .int p1, .int p2, .int p3, .int p4]) (n := 6) (Nat.le_of_ble_eq_true rfl)
  rw [lg_entry_eq]
  generalize (lg_sl ([.ref th, .int p1, .int p2, .int p3, .int p4]) ++ List.replicate (6 - (lg_sl ([.ref th, .int p1, .int p2, .int p3, .int p4])).length) Slot.unset).toArray = ls at hl ⊢
  have hl : lv_has ls 6 [(0, .ref th), (1, .int p1), (2, .int p2), (3, .int p3), (4, .int p4)] := hl
  unfold f_X6_mark at hf
  refine lv_aload_n hx hb dX6_mark_0 rfl (lv_at hl 0 rfl) ?_
  refine lv_iload_n hx hb dX6_mark_1 rfl (lv_at hl 1 rfl) ?_
  obtain ⟨q3, hc1, hfn, hfx⟩ := zt_inv hf
  refine z_xcq (z_rxV (As := [.int p1]) (rest := []) ⟨hx, hb, hml, hown, hts⟩ (c_X6_knownRow (l := l) (D := D) (cy := cy) (base := base) (st := st) (K := K) (L := L) (c := c) (r := r) (o := o) (z := z) th p1 hk_th hst hc1) (cwV 1 hts gX6_mark_X6_knownRow rfl rfl rfl (by decide +kernel) ⟨Nat.le_of_ble_eq_true rfl, Nat.le_of_ble_eq_true rfl⟩) hG hC (zC.recv (ci := 6) (fs := _) hK hC (by rw [hk_th]; decide) (by rw [hk_th]; exact zc_6 cy _ _) rfl) rfl hl.1 rfl (lv_room (Nat.le_of_ble_eq_true rfl)) dX6_mark_2 ⟨Nat.le_of_ble_eq_true rfl, Nat.le_of_ble_eq_true rfl⟩) hC (fun _ H locs q9 ce hq hC h1 h2 h3 => z_xout htab hlocks (hfx _ hq) hC h1 h2 h3 (Nat.le_of_ble_eq_true rfl) (Nat.le_of_ble_eq_true rfl)) (fun o2 H locs hq hC => ?_)
  have hf := hfn _ hq
  obtain ⟨a4, ea4, hk_a4, hf⟩ := zn_inv hf
  refine z_ref ea4 ?_
  refine lv_astore (lv' := [(5, .ref a4), (0, .ref th), (1, .int p1), (2, .int p2), (3, .int p3), (4, .int p4)]) hx hb dX6_mark_5 hl (by decide) rfl (fun ls hl => ?_)
  refine lv_aload hx hb dX6_mark_7 (lv_at hl 0 rfl) ?_
  refine lv_iload_n hx hb dX6_mark_9 rfl (lv_at hl 3 rfl) ?_
  obtain ⟨x6, hc5, hf⟩ := zb_inv hf
  refine z_ci (z_rV (As := [.int p2]) (rest := []) ⟨hx, hb, hml, hown, hts⟩ (c_X0_has (l := l) (D := D) (cy := cy) (base := base) (st := st) (K := K) (L := L) (c := c) (r := r) (o := o) (z := z) a4 p2 hk_a4 hc5) (cwV 1 hts gX6_mark_X0_has rfl rfl rfl (by decide +kernel) ⟨Nat.le_of_ble_eq_true rfl, Nat.le_of_ble_eq_true rfl⟩) hG hC (zC.recv (ci := 0) (fs := _) hK hC (by rw [hk_a4]; decide) (by rw [hk_a4]; exact zc_0 cy _ _) rfl) rfl hl.1 rfl (lv_room (Nat.le_of_ble_eq_true rfl)) dX6_mark_10 ⟨Nat.le_of_ble_eq_true rfl, Nat.le_of_ble_eq_true rfl⟩) hC (fun H locs hC => ?_)
  refine lv_if_ne (tgt := 26) hx hb dX6_mark_13 (by decide) (fun h16 => ?_) (fun h16 => ?_)
  · have hf := zif_f hf h16
    refine lv_iload_n hx hb dX6_mark_26 rfl (lv_at hl 4 rfl) ?_
    refine lv_if_lt (tgt := 35) hx hb dX6_mark_27 (by decide) (fun h15 => ?_) (fun h15 => ?_)
    · have hf := zif_t hf h15
      exact z_throw (own := RX6) (cls := "java/lang/IllegalArgumentException") (text := "what is 0 to 2") (names := ["java/lang/RuntimeException", "java/lang/Exception"]) (ik := 38) (is := 62) (ic := 42) (k := 2) hx hb hst hown rfl rfl w0 w1 (hG.2.2.2.2.2.2.2.1 2 (RX6, 62, "what is 0 to 2") rfl) (z_hat (ws := wsX6_mark) hts (by decide +kernel) (by decide +kernel) (hG.2.2.2.2.2.2.2.2.2.1 _ (by decide +kernel)) hG.2.2.2.2.2.2.2.2.2.2.2.2) (by decide +kernel) hG hC hl.1 hml dX6_mark_35 dX6_mark_38 dX6_mark_39 dX6_mark_41 dX6_mark_44 htab (Nat.le_of_ble_eq_true rfl) (Nat.le_of_ble_eq_true rfl) (Nat.le_of_ble_eq_true rfl) (Nat.le_of_ble_eq_true rfl) hlocks (Nat.le_of_ble_eq_true rfl) (Nat.le_of_ble_eq_true rfl) hf
    · have hf := zif_f hf h15
      refine lv_iload_n hx hb dX6_mark_30 rfl (lv_at hl 4 rfl) ?_
      refine lv_iconst (v := 2) hx hb dX6_mark_31 (by decide) ?_
      refine lv_icmp_le (tgt := 45) hx hb dX6_mark_32 (by decide) (fun h14 => ?_) (fun h14 => ?_)
      · have hf := zif_t hf h14
        refine lv_aload_n hx hb dX6_mark_45 rfl (lv_at hl 1 rfl) ?_
        refine lv_iconst (v := 0) hx hb dX6_mark_46 (by decide) ?_
        refine lv_iconst (v := 0) hx hb dX6_mark_47 (by decide) ?_
        obtain ⟨q9, hc7, hfn, hfx⟩ := zt_inv hf
        refine z_xcv (z_rxV (As := [.int 0, .int 0]) (rest := []) ⟨hx, hb, hml, hown, hts⟩ (c_X6_needTime (l := l) (D := D) (cy := cy) (base := base) (st := st) (K := K) (L := L) (c := c) (r := r) (o := o) (z := z) th 0 0 hk_th hst hc7) (cwV 2 hts gX6_mark_X6_needTime rfl rfl rfl (by decide +kernel) ⟨Nat.le_of_ble_eq_true rfl, Nat.le_of_ble_eq_true rfl⟩) hG hC (zC.recv (ci := 6) (fs := _) hK hC (by rw [hk_th]; decide) (by rw [hk_th]; exact zc_6 cy _ _) rfl) rfl hl.1 rfl (lv_room (Nat.le_of_ble_eq_true rfl)) dX6_mark_48 ⟨Nat.le_of_ble_eq_true rfl, Nat.le_of_ble_eq_true rfl⟩) hC (fun _ H locs q9 ce hq hC h1 h2 h3 => z_xout htab hlocks (hfx _ hq) hC h1 h2 h3 (Nat.le_of_ble_eq_true rfl) (Nat.le_of_ble_eq_true rfl)) (fun H locs hq hC => ?_)
        have hf := hfn _ hq
        refine lv_aload hx hb dX6_mark_51 (lv_at hl 0 rfl) ?_
        refine lv_iload_n hx hb dX6_mark_53 rfl (lv_at hl 3 rfl) ?_
        refine lv_iconst (v := 1) hx hb dX6_mark_54 (by decide) ?_
        refine lv_iload_n hx hb dX6_mark_55 rfl (lv_at hl 4 rfl) ?_
        refine lv_ishl hx hb dX6_mark_56 ?_
        refine lv_iload hx hb dX6_mark_57 (lv_at hl 5 rfl) ?_
        obtain ⟨x11, c12, hc10, hf⟩ := zb2_inv hf
        refine z_ci (z_rV (As := [.int p2, .int ((1 : Int32) <<< (p3 &&& 31)), .int p4]) (rest := []) ⟨hx, hb, hml, hown, hts⟩ (c_X0_setMark (l := l) (D := D) (cy := cy) (base := base) (st := st) (K := K) (L := L) (c := c) (r := r) (o := o) (z := z) a4 p2 ((1 : Int32) <<< (p3 &&& 31)) p4 hk_a4 hc10) (cwV 3 hts gX6_mark_X0_setMark rfl rfl rfl (by decide +kernel) ⟨Nat.le_of_ble_eq_true rfl, Nat.le_of_ble_eq_true rfl⟩) hG hC (zC.recv (ci := 0) (fs := _) hK hC (by rw [hk_a4]; decide) (by rw [hk_a4]; exact zc_0 cy _ _) rfl) rfl hl.1 rfl (lv_room (Nat.le_of_ble_eq_true rfl)) dX6_mark_59 ⟨Nat.le_of_ble_eq_true rfl, Nat.le_of_ble_eq_true rfl⟩) hC (fun H locs hC => ?_)
        refine W.widen (k := 3) (n := 18) (Nat.le_of_ble_eq_true rfl) (Nat.le_of_ble_eq_true rfl) ?_
        obtain ⟨hz13, hf⟩ := zz_inv hf
        exact z_xzretW hx hb hr hlocks hC hz13 hf dX6_mark_62
      · have hf := zif_f hf h14
        exact z_throw (own := RX6) (cls := "java/lang/IllegalArgumentException") (text := "what is 0 to 2") (names := ["java/lang/RuntimeException", "java/lang/Exception"]) (ik := 38) (is := 62) (ic := 42) (k := 2) hx hb hst hown rfl rfl w0 w1 (hG.2.2.2.2.2.2.2.1 2 (RX6, 62, "what is 0 to 2") rfl) (z_hat (ws := wsX6_mark) hts (by decide +kernel) (by decide +kernel) (hG.2.2.2.2.2.2.2.2.2.1 _ (by decide +kernel)) hG.2.2.2.2.2.2.2.2.2.2.2.2) (by decide +kernel) hG hC hl.1 hml dX6_mark_35 dX6_mark_38 dX6_mark_39 dX6_mark_41 dX6_mark_44 htab (Nat.le_of_ble_eq_true rfl) (Nat.le_of_ble_eq_true rfl) (Nat.le_of_ble_eq_true rfl) (Nat.le_of_ble_eq_true rfl) hlocks (Nat.le_of_ble_eq_true rfl) (Nat.le_of_ble_eq_true rfl) hf
  · have hf := zif_t hf h16
    exact z_throw (own := RX6) (cls := "java/lang/IndexOutOfBoundsException") (text := "no such place") (names := ["java/lang/RuntimeException", "java/lang/Exception"]) (ik := 57) (is := 59) (ic := 61) (k := 1) hx hb hst hown rfl rfl w2 w3 (hG.2.2.2.2.2.2.2.1 1 (RX6, 59, "no such place") rfl) (z_hat (ws := wsX6_mark) hts (by decide +kernel) (by decide +kernel) (hG.2.2.2.2.2.2.2.2.2.1 _ (by decide +kernel)) hG.2.2.2.2.2.2.2.2.2.2.2.2) (by decide +kernel) hG hC hl.1 hml dX6_mark_16 dX6_mark_19 dX6_mark_20 dX6_mark_22 dX6_mark_25 htab (Nat.le_of_ble_eq_true rfl) (Nat.le_of_ble_eq_true rfl) (Nat.le_of_ble_eq_true rfl) (Nat.le_of_ble_eq_true rfl) hlocks (Nat.le_of_ble_eq_true rfl) (Nat.le_of_ble_eq_true rfl) hf
def f_X6_knownTrade_20 (K : Nat → Nat) (z : Nat) (c : zS) (th : Nat) (p1 : Int32) (s0 : Option Nat) : Option ((Option Nat) ⊕ Nat) :=
  zo K s0 3 (some (.inr 1)) fun a1 => some (.inl (some a1))
def f_X6_knownTrade_19 (K : Nat → Nat) (z : Nat) (c : zS) (th : Nat) (p1 : Int32) : Option ((Option Nat) ⊕ Nat) :=
  f_X6_knownTrade_20 K z c th p1 none
def f_X6_knownTrade (K : Nat → Nat) (z : Nat) (c : zS) (th : Nat) (p1 : Int32) : Option ((Option Nat) ⊕ Nat) :=
  (if p1 < 0 then f_X6_knownTrade_19 K z c th p1 else (if 20 ≤ p1 then f_X6_knownTrade_19 K z c th p1 else zn K (zr c 121 th 0) 12 fun a2 => zx p1 20 <| zlet (zr c 144 a2 (Int32.toNatClampNeg p1)) fun o3 => f_X6_knownTrade_20 K z c th p1 o3))
set_option maxRecDepth 100000 in
set_option maxHeartbeats 4000000 in
theorem c_X6_knownTrade {l : Launch} {D : va_G} {cy : Nat → ClassId} {base : Nat} {st : Nat → Nat} {K : Nat → Nat} {L : List Nat} {c r : zS} {o : Int64} {z : Nat} (th : Nat) (p1 : Int32) {res : (Option Nat) ⊕ Nat}  (hk_th : K th = 6) (hst : l.stackTraces = false) (hf : f_X6_knownTrade K z c th p1 = some res) : vx_Met l yX6_knownTrade wsX6_knownTrade ({ frames := 6, cells := 1, slots := 6, locals := 100 }) (va_Pc [.ref th, .int p1] (zGW zts0 zns0 D cy base st K L (c, r, o))) (va_Qq (fun (rr : Option Nat) (u : Unit) => res = .inl rr) (fun u => zB D cy base K L (c, r, o)) (zA base)) (vx_X (fun (x : Nat) => res = .inr x) (fun E x t => E = zE x ∧ zB D cy base K L (c, r, o) t) (zA base)) 1 6 (zA base) := by
  refine vx_ofW (cc := cX6_knownTrade) (maxL := 3) (ret := (some (.object "MarketSquare$Trade"))) (by decide) rfl ?_
  intro p e s m args below meth cd s₁ B hml htab hv
  obtain ⟨rfl, hG⟩ := hv
  have hx := B.exec
  have hb := B.bytes
  have hr := B.returns
  have hts := atoms_spec (ws := wsX6_knownTrade) B.pre
  have hown : s.vm.findClass RX6 = some m.cls := findClass_of_methodNamed B.named
  have hlocks := B.notSynchronized
  have hC := hG.enter
  have hK := hG.2.2.2.1
  have hi6 : ∀ w ∈ wsX60, w ∈ wsX6_knownTrade := by decide +kernel
  have w0 := hts (.classLink RX6 57 "java/lang/IndexOutOfBoundsException") (by decide +kernel)
  have w1 := hts (.initialized "java/lang/IndexOutOfBoundsException") (by decide +kernel)
  have w2 := hts (.fieldLink RX6 17 "MarketSquare" "trades" "[LMarketSquare$Trade;") (by decide +kernel)
  have hl := lv_entry ([.ref th, .int p1]) (n := 3) (Nat.le_of_ble_eq_true rfl)
  rw [lg_entry_eq]
  generalize (lg_sl ([.ref th, .int p1]) ++ List.replicate (3 - (lg_sl ([.ref th, .int p1])).length) Slot.unset).toArray = ls at hl ⊢
  have hl : lv_has ls 3 [(0, .ref th), (1, .int p1)] := hl
  have J20 : ∀ (H : Heap) (locs : List Loc) (ls : Array Slot) (s0 : Option Nat), zC D cy base K L (c, r, o) s.heap H locs → lv_has ls 3 [(0, .ref th), (1, .int p1)] → f_X6_knownTrade_20 K z c th p1 s0 = some res → W p l e (headSpec wsX6_knownTrade ({ frames := 6, cells := 1, slots := 6, locals := 100 })).room s m ([.ref th, .int p1] : List Value).toArray below meth cd H locs 0 0 (vx_MQ below (va_Qq (fun (rr : Option Nat) (u : Unit) => res = .inl rr) (fun u => zB D cy base K L (c, r, o)) (zA base)) (vx_X (fun (x : Nat) => res = .inr x) (fun E x t => E = zE x ∧ zB D cy base K L (c, r, o) t) (zA base)) ([.ref th, .int p1] : List Value).toArray s 1 6 (zA base)) (F0 m 20 ls [va_rf s0]) := by
    intro H locs ls s0 hC hl hf
    unfold f_X6_knownTrade_20 at hf
    refine z_astore_n (lv' := [(2, va_rf s0), (0, .ref th), (1, .int p1)]) hx hb dX6_knownTrade_20 rfl hl (by decide) rfl (fun ls hl => ?_)
    refine z_aload_n hx hb dX6_knownTrade_21 rfl (lv_at hl 0 rfl) ?_
    rcases zo_inv hf with ⟨e0, hf0⟩ | ⟨a1, e0, hk_a1, hf0⟩
    · subst e0; have hf := hf0
      have hl : lv_has ls 3 [(2, .null), (0, .ref th), (1, .int p1)] := hl
      refine lv_ifnonnullN hx hb dX6_knownTrade_22 ?_
      exact z_throwW (own := RX6) (cls := "java/lang/IndexOutOfBoundsException") (text := "no such trade") (names := ["java/lang/RuntimeException", "java/lang/Exception"]) (ik := 57) (is := 335) (ic := 61) (k := 1) hx hb hst hown rfl rfl w0 w1 (hG.2.2.2.2.2.2.2.1 18 (RX6, 335, "no such trade") rfl) (z_hat (ws := wsX6_knownTrade) hts (by decide +kernel) (by decide +kernel) (hG.2.2.2.2.2.2.2.2.2.1 _ (by decide +kernel)) hG.2.2.2.2.2.2.2.2.2.2.2.2) (by decide +kernel) hG hC hl.1 hml dX6_knownTrade_25 dX6_knownTrade_28 dX6_knownTrade_29 dX6_knownTrade_32 dX6_knownTrade_35 htab (Nat.le_of_ble_eq_true rfl) (Nat.le_of_ble_eq_true rfl) (Nat.le_of_ble_eq_true rfl) (Nat.le_of_ble_eq_true rfl) hlocks (Nat.le_of_ble_eq_true rfl) (Nat.le_of_ble_eq_true rfl) hf
    · subst e0; have hf := hf0
      have hl : lv_has ls 3 [(2, .ref a1), (0, .ref th), (1, .int p1)] := hl
      refine lv_ifnonnull (tgt := 36) hx hb dX6_knownTrade_22 (by decide) ?_
      refine lv_aload_n hx hb dX6_knownTrade_36 rfl (lv_at hl 0 rfl) ?_
      refine W.widen (k := 1) (n := 6) (Nat.le_of_ble_eq_true rfl) (Nat.le_of_ble_eq_true rfl) ?_
      exact z_xqret (x := (some a1)) hx hb hr hlocks hC hf dX6_knownTrade_37
  have J19 : ∀ (H : Heap) (locs : List Loc) (ls : Array Slot), zC D cy base K L (c, r, o) s.heap H locs → lv_has ls 3 [(0, .ref th), (1, .int p1)] → f_X6_knownTrade_19 K z c th p1 = some res → W p l e (headSpec wsX6_knownTrade ({ frames := 6, cells := 1, slots := 6, locals := 100 })).room s m ([.ref th, .int p1] : List Value).toArray below meth cd H locs 0 0 (vx_MQ below (va_Qq (fun (rr : Option Nat) (u : Unit) => res = .inl rr) (fun u => zB D cy base K L (c, r, o)) (zA base)) (vx_X (fun (x : Nat) => res = .inr x) (fun E x t => E = zE x ∧ zB D cy base K L (c, r, o) t) (zA base)) ([.ref th, .int p1] : List Value).toArray s 1 6 (zA base)) (F0 m 19 ls []) := by
    intro H locs ls hC hl hf
    unfold f_X6_knownTrade_19 at hf
    refine lv_null hx hb dX6_knownTrade_19 ?_
    exact J20 _ _ _ none hC (lv_sub hl [0, 1] rfl) hf
  unfold f_X6_knownTrade at hf
  refine lv_iload_n hx hb dX6_knownTrade_0 rfl (lv_at hl 1 rfl) ?_
  refine lv_if_lt (tgt := 19) hx hb dX6_knownTrade_1 (by decide) (fun h5 => ?_) (fun h5 => ?_)
  · have hf := zif_t hf h5
    exact J19 _ _ _ hC (lv_sub hl [0, 1] rfl) hf
  · have hf := zif_f hf h5
    refine lv_iload_n hx hb dX6_knownTrade_4 rfl (lv_at hl 1 rfl) ?_
    refine lv_bipush (v := 20) hx hb dX6_knownTrade_5 (by decide) ?_
    refine lv_icmp_ge (tgt := 19) hx hb dX6_knownTrade_7 (by decide) (fun h4 => ?_) (fun h4 => ?_)
    · have hf := zif_t hf h4
      exact J19 _ _ _ hC (lv_sub hl [0, 1] rfl) hf
    · have hf := zif_f hf h4
      refine lv_aload_n hx hb dX6_knownTrade_10 rfl (lv_at hl 0 rfl) ?_
      refine zg_6_1 hx hb hts hi6 hown hK hC hk_th w2 dX6_knownTrade_11 ?_
      obtain ⟨a2, ea2, hk_a2, hf⟩ := zn_inv hf
      refine z_ref ea2 ?_
      refine lv_iload_n hx hb dX6_knownTrade_14 rfl (lv_at hl 1 rfl) ?_
      obtain ⟨hix, hf⟩ := zx_inv hf
      refine xg_12 hx hb hK hC hk_a2 hix dX6_knownTrade_15 ?_
      obtain ⟨o3, eo3, hf⟩ := zlet_inv hf
      refine z_nameo eo3 ?_
      refine lv_goto (tgt := 20) hx hb dX6_knownTrade_16 (by decide) ?_
      exact J20 _ _ _ o3 hC (lv_sub hl [0, 1] rfl) hf
def f_X6_pair (K : Nat → Nat) (z : Nat) (c : zS) (th : Nat) (p1 : Int32) (p2 : Int32) (p3 : Int32) : Option ((Int32 × zS) ⊕ Nat) :=
  zt (f_X6_knownTrade K z c th p1) fun o2 => zn K o2 3 fun a4 => zt (f_X6_knownTrade K z c th p2) fun o6 => zn K o6 3 fun a8 => zt (f_X6_needTime K z c th 0 0) fun u10 => zb (f_X3_isPairedWith K z c a4 a8) fun x13 => (if x13 = p3 then some (.inl (0, c)) else zb (f_X3_setPaired K z c a4 a8 p3) fun c16 => zb (f_X3_setPaired K z c16 a8 a4 p3) fun c19 => some (.inl (1, c19)))
set_option maxRecDepth 100000 in
set_option maxHeartbeats 4000000 in
theorem c_X6_pair {l : Launch} {D : va_G} {cy : Nat → ClassId} {base : Nat} {st : Nat → Nat} {K : Nat → Nat} {L : List Nat} {c r : zS} {o : Int64} {z : Nat} (th : Nat) (p1 : Int32) (p2 : Int32) (p3 : Int32) {res : (Int32 × zS) ⊕ Nat}  (hk_th : K th = 6) (hst : l.stackTraces = false) (hf : f_X6_pair K z c th p1 p2 p3 = some res) : vx_Met l yX6_pair wsX6_pair ({ frames := 7, cells := 3, slots := 18, locals := 122 }) (va_Pc [.ref th, .int p1, .int p2, .int p3] (zGW zts0 zns0 D cy base st K L (c, r, o))) (va_Qi (fun (rr : Int32) (u : zS) => res = .inl (rr, u)) (fun u => zB D cy base K L (u, r, o)) (zA base)) (vx_X (fun (x : Nat) => res = .inr x) (fun E x t => E = zE x ∧ zB D cy base K L (c, r, o) t) (zA base)) 3 18 (zA base) := by
  refine vx_ofW (cc := cX6_pair) (maxL := 6) (ret := (some .boolean)) (by decide) rfl ?_
  intro p e s m args below meth cd s₁ B hml htab hv
  obtain ⟨rfl, hG⟩ := hv
  have hx := B.exec
  have hb := B.bytes
  have hr := B.returns
  have hts := atoms_spec (ws := wsX6_pair) B.pre
  have hown : s.vm.findClass RX6 = some m.cls := findClass_of_methodNamed B.named
  have hlocks := B.notSynchronized
  have hC := hG.enter
  have hK := hG.2.2.2.1
  have hl := lv_entry ([.ref th, .int p1, .int p2, .int p3]) (n := 6) (Nat.le_of_ble_eq_true rfl)
  rw [lg_entry_eq]
  generalize (lg_sl ([.ref th, .int p1, .int p2, .int p3]) ++ List.replicate (6 - (lg_sl ([.ref th, .int p1, .int p2, .int p3])).length) Slot.unset).toArray = ls at hl ⊢
  have hl : lv_has ls 6 [(0, .ref th), (1, .int p1), (2, .int p2), (3, .int p3)] := hl
  unfold f_X6_pair at hf
  refine lv_aload_n hx hb dX6_pair_0 rfl (lv_at hl 0 rfl) ?_
  refine lv_iload_n hx hb dX6_pair_1 rfl (lv_at hl 1 rfl) ?_
  obtain ⟨q3, hc1, hfn, hfx⟩ := zt_inv hf
  refine z_xcq (z_rxV (As := [.int p1]) (rest := []) ⟨hx, hb, hml, hown, hts⟩ (c_X6_knownTrade (l := l) (D := D) (cy := cy) (base := base) (st := st) (K := K) (L := L) (c := c) (r := r) (o := o) (z := z) th p1 hk_th hst hc1) (cwV 1 hts gX6_pair_X6_knownTrade rfl rfl rfl (by decide +kernel) ⟨Nat.le_of_ble_eq_true rfl, Nat.le_of_ble_eq_true rfl⟩) hG hC (zC.recv (ci := 6) (fs := _) hK hC (by rw [hk_th]; decide) (by rw [hk_th]; exact zc_6 cy _ _) rfl) rfl hl.1 rfl (lv_room (Nat.le_of_ble_eq_true rfl)) dX6_pair_2 ⟨Nat.le_of_ble_eq_true rfl, Nat.le_of_ble_eq_true rfl⟩) hC (fun _ H locs q9 ce hq hC h1 h2 h3 => z_xout htab hlocks (hfx _ hq) hC h1 h2 h3 (Nat.le_of_ble_eq_true rfl) (Nat.le_of_ble_eq_true rfl)) (fun o2 H locs hq hC => ?_)
  have hf := hfn _ hq
  obtain ⟨a4, ea4, hk_a4, hf⟩ := zn_inv hf
  refine z_ref ea4 ?_
  refine lv_astore (lv' := [(4, .ref a4), (0, .ref th), (1, .int p1), (2, .int p2), (3, .int p3)]) hx hb dX6_pair_5 hl (by decide) rfl (fun ls hl => ?_)
  refine lv_aload_n hx hb dX6_pair_7 rfl (lv_at hl 1 rfl) ?_
  refine lv_iload_n hx hb dX6_pair_8 rfl (lv_at hl 3 rfl) ?_
  obtain ⟨q7, hc5, hfn, hfx⟩ := zt_inv hf
  refine z_xcq (z_rxV (As := [.int p2]) (rest := []) ⟨hx, hb, hml, hown, hts⟩ (c_X6_knownTrade (l := l) (D := D) (cy := cy) (base := base) (st := st) (K := K) (L := L) (c := c) (r := r) (o := o) (z := z) th p2 hk_th hst hc5) (cwV 1 hts gX6_pair_X6_knownTrade rfl rfl rfl (by decide +kernel) ⟨Nat.le_of_ble_eq_true rfl, Nat.le_of_ble_eq_true rfl⟩) hG hC (zC.recv (ci := 6) (fs := _) hK hC (by rw [hk_th]; decide) (by rw [hk_th]; exact zc_6 cy _ _) rfl) rfl hl.1 rfl (lv_room (Nat.le_of_ble_eq_true rfl)) dX6_pair_9 ⟨Nat.le_of_ble_eq_true rfl, Nat.le_of_ble_eq_true rfl⟩) hC (fun _ H locs q9 ce hq hC h1 h2 h3 => z_xout htab hlocks (hfx _ hq) hC h1 h2 h3 (Nat.le_of_ble_eq_true rfl) (Nat.le_of_ble_eq_true rfl)) (fun o6 H locs hq hC => ?_)
  have hf := hfn _ hq
  obtain ⟨a8, ea8, hk_a8, hf⟩ := zn_inv hf
  refine z_ref ea8 ?_
  refine lv_astore (lv' := [(5, .ref a8), (4, .ref a4), (0, .ref th), (1, .int p1), (2, .int p2), (3, .int p3)]) hx hb dX6_pair_12 hl (by decide) rfl (fun ls hl => ?_)
  refine lv_aload_n hx hb dX6_pair_14 rfl (lv_at hl 2 rfl) ?_
  refine lv_iconst (v := 0) hx hb dX6_pair_15 (by decide) ?_
  refine lv_iconst (v := 0) hx hb dX6_pair_16 (by decide) ?_
  obtain ⟨q11, hc9, hfn, hfx⟩ := zt_inv hf
  refine z_xcv (z_rxV (As := [.int 0, .int 0]) (rest := []) ⟨hx, hb, hml, hown, hts⟩ (c_X6_needTime (l := l) (D := D) (cy := cy) (base := base) (st := st) (K := K) (L := L) (c := c) (r := r) (o := o) (z := z) th 0 0 hk_th hst hc9) (cwV 2 hts gX6_pair_X6_needTime rfl rfl rfl (by decide +kernel) ⟨Nat.le_of_ble_eq_true rfl, Nat.le_of_ble_eq_true rfl⟩) hG hC (zC.recv (ci := 6) (fs := _) hK hC (by rw [hk_th]; decide) (by rw [hk_th]; exact zc_6 cy _ _) rfl) rfl hl.1 rfl (lv_room (Nat.le_of_ble_eq_true rfl)) dX6_pair_17 ⟨Nat.le_of_ble_eq_true rfl, Nat.le_of_ble_eq_true rfl⟩) hC (fun _ H locs q9 ce hq hC h1 h2 h3 => z_xout htab hlocks (hfx _ hq) hC h1 h2 h3 (Nat.le_of_ble_eq_true rfl) (Nat.le_of_ble_eq_true rfl)) (fun H locs hq hC => ?_)
  have hf := hfn _ hq
  refine lv_aload hx hb dX6_pair_20 (lv_at hl 1 rfl) ?_
  refine lv_aload hx hb dX6_pair_22 (lv_at hl 0 rfl) ?_
  obtain ⟨x13, hc12, hf⟩ := zb_inv hf
  refine z_ci (z_rV (As := [.ref a8]) (rest := []) ⟨hx, hb, hml, hown, hts⟩ (c_X3_isPairedWith (l := l) (D := D) (cy := cy) (base := base) (st := st) (K := K) (L := L) (c := c) (r := r) (o := o) (z := z) a4 a8 hk_a4 hk_a8 hc12) (cwV 1 hts gX6_pair_X3_isPairedWith rfl rfl rfl (by decide +kernel) ⟨Nat.le_of_ble_eq_true rfl, Nat.le_of_ble_eq_true rfl⟩) hG hC (zC.recv (ci := 3) (fs := _) hK hC (by rw [hk_a4]; decide) (by rw [hk_a4]; exact zc_3 cy _ _) rfl) rfl hl.1 rfl (lv_room (Nat.le_of_ble_eq_true rfl)) dX6_pair_24 ⟨Nat.le_of_ble_eq_true rfl, Nat.le_of_ble_eq_true rfl⟩) hC (fun H locs hC => ?_)
  refine lv_iload_n hx hb dX6_pair_27 rfl (lv_at hl 5 rfl) ?_
  refine lv_icmp_ne (tgt := 33) hx hb dX6_pair_28 (by decide) (fun h20 => ?_) (fun h20 => ?_)
  · have hf := zif_f hf h20
    refine lv_aload hx hb dX6_pair_33 (lv_at hl 1 rfl) ?_
    refine lv_aload hx hb dX6_pair_35 (lv_at hl 0 rfl) ?_
    refine lv_iload_n hx hb dX6_pair_37 rfl (lv_at hl 5 rfl) ?_
    obtain ⟨c16, hc14, hf⟩ := zb_inv hf
    refine z_cv (z_rV (As := [.ref a8, .int p3]) (rest := []) ⟨hx, hb, hml, hown, hts⟩ (c_X3_setPaired (l := l) (D := D) (cy := cy) (base := base) (st := st) (K := K) (L := L) (c := c) (r := r) (o := o) (z := z) a4 a8 p3 hk_a4 hk_a8 hc14) (cwV 2 hts gX6_pair_X3_setPaired rfl rfl rfl (by decide +kernel) ⟨Nat.le_of_ble_eq_true rfl, Nat.le_of_ble_eq_true rfl⟩) hG hC (zC.recv (ci := 3) (fs := _) hK hC (by rw [hk_a4]; decide) (by rw [hk_a4]; exact zc_3 cy _ _) rfl) rfl hl.1 rfl (lv_room (Nat.le_of_ble_eq_true rfl)) dX6_pair_38 ⟨Nat.le_of_ble_eq_true rfl, Nat.le_of_ble_eq_true rfl⟩) hC (fun H locs hC => ?_)
    refine lv_aload hx hb dX6_pair_41 (lv_at hl 0 rfl) ?_
    refine lv_aload hx hb dX6_pair_43 (lv_at hl 1 rfl) ?_
    refine lv_iload_n hx hb dX6_pair_45 rfl (lv_at hl 5 rfl) ?_
    obtain ⟨c19, hc17, hf⟩ := zb_inv hf
    refine z_cv (z_rV (As := [.ref a4, .int p3]) (rest := []) ⟨hx, hb, hml, hown, hts⟩ (c_X3_setPaired (l := l) (D := D) (cy := cy) (base := base) (st := st) (K := K) (L := L) (c := c16) (r := r) (o := o) (z := z) a8 a4 p3 hk_a8 hk_a4 hc17) (cwV 2 hts gX6_pair_X3_setPaired rfl rfl rfl (by decide +kernel) ⟨Nat.le_of_ble_eq_true rfl, Nat.le_of_ble_eq_true rfl⟩) hG hC (zC.recv (ci := 3) (fs := _) hK hC (by rw [hk_a8]; decide) (by rw [hk_a8]; exact zc_3 cy _ _) rfl) rfl hl.1 rfl (lv_room (Nat.le_of_ble_eq_true rfl)) dX6_pair_46 ⟨Nat.le_of_ble_eq_true rfl, Nat.le_of_ble_eq_true rfl⟩) hC (fun H locs hC => ?_)
    refine lv_iconst (v := 1) hx hb dX6_pair_49 (by decide) ?_
    refine W.widen (k := 3) (n := 18) (Nat.le_of_ble_eq_true rfl) (Nat.le_of_ble_eq_true rfl) ?_
    exact z_xzretW hx hb hr hlocks hC (Or.inr rfl) hf dX6_pair_50
  · have hf := zif_t hf h20
    refine lv_iconst (v := 0) hx hb dX6_pair_31 (by decide) ?_
    refine W.widen (k := 3) (n := 18) (Nat.le_of_ble_eq_true rfl) (Nat.le_of_ble_eq_true rfl) ?_
    exact z_xzretW hx hb hr hlocks hC (Or.inl rfl) hf dX6_pair_32
def f_X6_pitch_34 (K : Nat → Nat) (z : Nat) (th : Nat) (p1 : Int32) (p2 : Int32) (p3 : Int32) (c : zS) (v4 : Nat) : Option (zS ⊕ Nat) :=
  zt (f_X6_needTime K z c th 0 0) fun u6 => zn K (zr c 83 v4 0) 1 fun a8 => zb (f_X1_put K z c a8 p2 p3) fun c11 => some (.inl c11)
def f_X6_pitch (K : Nat → Nat) (z : Nat) (c : zS) (th : Nat) (p1 : Int32) (p2 : Int32) (p3 : Int32) : Option (zS ⊕ Nat) :=
  zt (f_X6_knownTrader K z c th p1) fun o2 => zn K o2 4 fun a4 => (if (zi c 86 a4 0) = 0 then f_X6_pitch_34 K z th p1 p2 p3 c a4 else (if (zi c 86 a4 0) = 2 then f_X6_pitch_34 K z th p1 p2 p3 c a4 else some (.inr 2)))
set_option maxRecDepth 100000 in
set_option maxHeartbeats 4000000 in
theorem c_X6_pitch {l : Launch} {D : va_G} {cy : Nat → ClassId} {base : Nat} {st : Nat → Nat} {K : Nat → Nat} {L : List Nat} {c r : zS} {o : Int64} {z : Nat} (th : Nat) (p1 : Int32) (p2 : Int32) (p3 : Int32) {res : zS ⊕ Nat}  (hk_th : K th = 6) (hst : l.stackTraces = false) (hf : f_X6_pitch K z c th p1 p2 p3 = some res) : vx_Met l yX6_pitch wsX6_pitch ({ frames := 7, cells := 3, slots := 18, locals := 122 }) (va_Pc [.ref th, .int p1, .int p2, .int p3] (zGW zts0 zns0 D cy base st K L (c, r, o))) (va_Qv (fun (u : zS) => res = .inl u) (fun u => zB D cy base K L (u, r, o)) (zA base)) (vx_X (fun (x : Nat) => res = .inr x) (fun E x t => E = zE x ∧ zB D cy base K L (c, r, o) t) (zA base)) 3 18 (zA base) := by
  refine vx_ofW (cc := cX6_pitch) (maxL := 5) (ret := none) (by decide) rfl ?_
  intro p e s m args below meth cd s₁ B hml htab hv
  obtain ⟨rfl, hG⟩ := hv
  have hx := B.exec
  have hb := B.bytes
  have hr := B.returns
  have hts := atoms_spec (ws := wsX6_pitch) B.pre
  have hown : s.vm.findClass RX6 = some m.cls := findClass_of_methodNamed B.named
  have hlocks := B.notSynchronized
  have hC := hG.enter
  have hK := hG.2.2.2.1
  have hi4 : ∀ w ∈ wsX40, w ∈ wsX6_pitch := by decide +kernel
  have w0 := hts (.fieldLink RX6 115 "MarketSquare$Trader" "kind" "I") (by decide +kernel)
  have w1 := hts (.fieldLink RX6 120 "MarketSquare$Trader" "pitch" "LMarketSquare$Spot;") (by decide +kernel)
  have w2 := hts (.classLink RX6 38 "java/lang/IllegalArgumentException") (by decide +kernel)
  have w3 := hts (.initialized "java/lang/IllegalArgumentException") (by decide +kernel)
  have hl := lv_entry ([.ref th, .int p1, .int p2, .int p3]) (n := 5) (Nat.le_of_ble_eq_true rfl)
  rw [lg_entry_eq]
  generalize (lg_sl ([.ref th, .int p1, .int p2, .int p3]) ++ List.replicate (5 - (lg_sl ([.ref th, .int p1, .int p2, .int p3])).length) Slot.unset).toArray = ls at hl ⊢
  have hl : lv_has ls 5 [(0, .ref th), (1, .int p1), (2, .int p2), (3, .int p3)] := hl
  have J34 : ∀ (H : Heap) (locs : List Loc) (ls : Array Slot) (v4 : Nat), K v4 = 4 → zC D cy base K L (c, r, o) s.heap H locs → lv_has ls 5 [(0, .ref th), (1, .int p1), (2, .int p2), (3, .int p3), (4, .ref v4)] → f_X6_pitch_34 K z th p1 p2 p3 c v4 = some res → W p l e (headSpec wsX6_pitch ({ frames := 7, cells := 3, slots := 18, locals := 122 })).room s m ([.ref th, .int p1, .int p2, .int p3] : List Value).toArray below meth cd H locs 1 6 (vx_MQ below (va_Qv (fun (u : zS) => res = .inl u) (fun u => zB D cy base K L (u, r, o)) (zA base)) (vx_X (fun (x : Nat) => res = .inr x) (fun E x t => E = zE x ∧ zB D cy base K L (c, r, o) t) (zA base)) ([.ref th, .int p1, .int p2, .int p3] : List Value).toArray s 3 18 (zA base)) (F0 m 34 ls []) := by
    intro H locs ls v4 hk_v4 hC hl hf
    unfold f_X6_pitch_34 at hf
    refine lv_aload_n hx hb dX6_pitch_34 rfl (lv_at hl 0 rfl) ?_
    refine lv_iconst (v := 0) hx hb dX6_pitch_35 (by decide) ?_
    refine lv_iconst (v := 0) hx hb dX6_pitch_36 (by decide) ?_
    obtain ⟨q7, hc5, hfn, hfx⟩ := zt_inv hf
    refine z_xcv (z_rxV (As := [.int 0, .int 0]) (rest := []) ⟨hx, hb, hml, hown, hts⟩ (c_X6_needTime (l := l) (D := D) (cy := cy) (base := base) (st := st) (K := K) (L := L) (c := c) (r := r) (o := o) (z := z) th 0 0 hk_th hst hc5) (cwV 2 hts gX6_pitch_X6_needTime rfl rfl rfl (by decide +kernel) ⟨Nat.le_of_ble_eq_true rfl, Nat.le_of_ble_eq_true rfl⟩) hG hC (zC.recv (ci := 6) (fs := _) hK hC (by rw [hk_th]; decide) (by rw [hk_th]; exact zc_6 cy _ _) rfl) rfl hl.1 rfl (lv_room (Nat.le_of_ble_eq_true rfl)) dX6_pitch_37 ⟨Nat.le_of_ble_eq_true rfl, Nat.le_of_ble_eq_true rfl⟩) hC (fun _ H locs q9 ce hq hC h1 h2 h3 => z_xout htab hlocks (hfx _ hq) hC h1 h2 h3 (Nat.le_of_ble_eq_true rfl) (Nat.le_of_ble_eq_true rfl)) (fun H locs hq hC => ?_)
    have hf := hfn _ hq
    refine lv_aload hx hb dX6_pitch_40 (lv_at hl 4 rfl) ?_
    refine zg_4_3 hx hb hts hi4 hown hK hC hk_v4 w1 dX6_pitch_42 ?_
    obtain ⟨a8, ea8, hk_a8, hf⟩ := zn_inv hf
    refine z_ref ea8 ?_
    refine lv_iload_n hx hb dX6_pitch_45 rfl (lv_at hl 2 rfl) ?_
    refine lv_iload_n hx hb dX6_pitch_46 rfl (lv_at hl 3 rfl) ?_
    obtain ⟨c11, hc9, hf⟩ := zb_inv hf
    refine z_cv (z_rV (As := [.int p2, .int p3]) (rest := []) ⟨hx, hb, hml, hown, hts⟩ (c_X1_put (l := l) (D := D) (cy := cy) (base := base) (st := st) (K := K) (L := L) (c := c) (r := r) (o := o) (z := z) a8 p2 p3 hk_a8 hc9) (cwV 2 hts gX6_pitch_X1_put rfl rfl rfl (by decide +kernel) ⟨Nat.le_of_ble_eq_true rfl, Nat.le_of_ble_eq_true rfl⟩) hG hC (zC.recv (ci := 1) (fs := _) hK hC (by rw [hk_a8]; decide) (by rw [hk_a8]; exact zc_1 cy _ _) rfl) rfl hl.1 rfl (lv_room (Nat.le_of_ble_eq_true rfl)) dX6_pitch_47 ⟨Nat.le_of_ble_eq_true rfl, Nat.le_of_ble_eq_true rfl⟩) hC (fun H locs hC => ?_)
    refine W.widen (k := 3) (n := 18) (Nat.le_of_ble_eq_true rfl) (Nat.le_of_ble_eq_true rfl) ?_
    exact z_xvretW hx hb hr hlocks hC hf dX6_pitch_50
  unfold f_X6_pitch at hf
  refine lv_aload_n hx hb dX6_pitch_0 rfl (lv_at hl 0 rfl) ?_
  refine lv_iload_n hx hb dX6_pitch_1 rfl (lv_at hl 1 rfl) ?_
  obtain ⟨q3, hc1, hfn, hfx⟩ := zt_inv hf
  refine z_xcq (z_rxV (As := [.int p1]) (rest := []) ⟨hx, hb, hml, hown, hts⟩ (c_X6_knownTrader (l := l) (D := D) (cy := cy) (base := base) (st := st) (K := K) (L := L) (c := c) (r := r) (o := o) (z := z) th p1 hk_th hst hc1) (cwV 1 hts gX6_pitch_X6_knownTrader rfl rfl rfl (by decide +kernel) ⟨Nat.le_of_ble_eq_true rfl, Nat.le_of_ble_eq_true rfl⟩) hG hC (zC.recv (ci := 6) (fs := _) hK hC (by rw [hk_th]; decide) (by rw [hk_th]; exact zc_6 cy _ _) rfl) rfl hl.1 rfl (lv_room (Nat.le_of_ble_eq_true rfl)) dX6_pitch_2 ⟨Nat.le_of_ble_eq_true rfl, Nat.le_of_ble_eq_true rfl⟩) hC (fun _ H locs q9 ce hq hC h1 h2 h3 => z_xout htab hlocks (hfx _ hq) hC h1 h2 h3 (Nat.le_of_ble_eq_true rfl) (Nat.le_of_ble_eq_true rfl)) (fun o2 H locs hq hC => ?_)
  have hf := hfn _ hq
  obtain ⟨a4, ea4, hk_a4, hf⟩ := zn_inv hf
  refine z_ref ea4 ?_
  refine lv_astore (lv' := [(4, .ref a4), (0, .ref th), (1, .int p1), (2, .int p2), (3, .int p3)]) hx hb dX6_pitch_5 hl (by decide) rfl (fun ls hl => ?_)
  refine lv_aload hx hb dX6_pitch_7 (lv_at hl 0 rfl) ?_
  refine zg_4_6 hx hb hts hi4 hown hK hC hk_a4 w0 dX6_pitch_9 ?_
  refine lv_if_eq (tgt := 34) hx hb dX6_pitch_12 (by decide) (fun h13 => ?_) (fun h13 => ?_)
  · have hf := zif_t hf h13
    exact J34 _ _ _ a4 hk_a4 hC (lv_sub hl [1, 2, 3, 4, 0] rfl) hf
  · have hf := zif_f hf h13
    refine lv_aload hx hb dX6_pitch_15 (lv_at hl 0 rfl) ?_
    refine zg_4_6 hx hb hts hi4 hown hK hC hk_a4 w0 dX6_pitch_17 ?_
    refine lv_iconst (v := 2) hx hb dX6_pitch_20 (by decide) ?_
    refine lv_icmp_eq (tgt := 34) hx hb dX6_pitch_21 (by decide) (fun h12 => ?_) (fun h12 => ?_)
    · have hf := zif_t hf h12
      exact J34 _ _ _ a4 hk_a4 hC (lv_sub hl [1, 2, 3, 4, 0] rfl) hf
    · have hf := zif_f hf h12
      exact z_throw (own := RX6) (cls := "java/lang/IllegalArgumentException") (text := "only regulars and farmers have a pitch") (names := ["java/lang/RuntimeException", "java/lang/Exception"]) (ik := 38) (is := 118) (ic := 42) (k := 2) hx hb hst hown rfl rfl w2 w3 (hG.2.2.2.2.2.2.2.1 9 (RX6, 118, "only regulars and farmers have a pitch") rfl) (z_hat (ws := wsX6_pitch) hts (by decide +kernel) (by decide +kernel) (hG.2.2.2.2.2.2.2.2.2.1 _ (by decide +kernel)) hG.2.2.2.2.2.2.2.2.2.2.2.2) (by decide +kernel) hG hC hl.1 hml dX6_pitch_24 dX6_pitch_27 dX6_pitch_28 dX6_pitch_30 dX6_pitch_33 htab (Nat.le_of_ble_eq_true rfl) (Nat.le_of_ble_eq_true rfl) (Nat.le_of_ble_eq_true rfl) (Nat.le_of_ble_eq_true rfl) hlocks (Nat.le_of_ble_eq_true rfl) (Nat.le_of_ble_eq_true rfl) hf
def f_X6_months (K : Nat → Nat) (z : Nat) (c : zS) (th : Nat) (p1 : Int32) (p2 : Int32) : Option (zS ⊕ Nat) :=
  zt (f_X6_knownTrader K z c th p1) fun o2 => zn K o2 4 fun a4 => (if (zi c 86 a4 0) = 2 then (if p2 < 0 then some (.inr 2) else (if p2 ≤ 4095 then zt (f_X6_needTime K z c th 0 0) fun u6 => zlet (zui c 88 a4 0 p2) fun c8 => some (.inl c8) else some (.inr 2))) else some (.inr 2))
set_option maxRecDepth 100000 in
set_option maxHeartbeats 4000000 in
theorem c_X6_months {l : Launch} {D : va_G} {cy : Nat → ClassId} {base : Nat} {st : Nat → Nat} {K : Nat → Nat} {L : List Nat} {c r : zS} {o : Int64} {z : Nat} (th : Nat) (p1 : Int32) (p2 : Int32) {res : zS ⊕ Nat}  (hk_th : K th = 6) (hst : l.stackTraces = false) (hf : f_X6_months K z c th p1 p2 = some res) : vx_Met l yX6_months wsX6_months ({ frames := 7, cells := 3, slots := 18, locals := 122 }) (va_Pc [.ref th, .int p1, .int p2] (zGW zts0 zns0 D cy base st K L (c, r, o))) (va_Qv (fun (u : zS) => res = .inl u) (fun u => zB D cy base K L (u, r, o)) (zA base)) (vx_X (fun (x : Nat) => res = .inr x) (fun E x t => E = zE x ∧ zB D cy base K L (c, r, o) t) (zA base)) 3 18 (zA base) := by
  refine vx_ofW (cc := cX6_months) (maxL := 4) (ret := none) (by decide) rfl ?_
  intro p e s m args below meth cd s₁ B hml htab hv
  obtain ⟨rfl, hG⟩ := hv
  have hx := B.exec
  have hb := B.bytes
  have hr := B.returns
  have hts := atoms_spec (ws := wsX6_months) B.pre
  have hown : s.vm.findClass RX6 = some m.cls := findClass_of_methodNamed B.named
  have hlocks := B.notSynchronized
  have hC := hG.enter
  have hK := hG.2.2.2.1
  have hi4 : ∀ w ∈ wsX40, w ∈ wsX6_months := by decide +kernel
  have w0 := hts (.fieldLink RX6 115 "MarketSquare$Trader" "kind" "I") (by decide +kernel)
  have w1 := hts (.classLink RX6 38 "java/lang/IllegalArgumentException") (by decide +kernel)
  have w2 := hts (.initialized "java/lang/IllegalArgumentException") (by decide +kernel)
  have w3 := hts (.fieldLink RX6 133 "MarketSquare$Trader" "months" "I") (by decide +kernel)
  have hl := lv_entry ([.ref th, .int p1, .int p2]) (n := 4) (Nat.le_of_ble_eq_true rfl)
  rw [lg_entry_eq]
  generalize (lg_sl ([.ref th, .int p1, .int p2]) ++ List.replicate (4 - (lg_sl ([.ref th, .int p1, .int p2])).length) Slot.unset).toArray = ls at hl ⊢
  have hl : lv_has ls 4 [(0, .ref th), (1, .int p1), (2, .int p2)] := hl
  unfold f_X6_months at hf
  refine lv_aload_n hx hb dX6_months_0 rfl (lv_at hl 0 rfl) ?_
  refine lv_iload_n hx hb dX6_months_1 rfl (lv_at hl 1 rfl) ?_
  obtain ⟨q3, hc1, hfn, hfx⟩ := zt_inv hf
  refine z_xcq (z_rxV (As := [.int p1]) (rest := []) ⟨hx, hb, hml, hown, hts⟩ (c_X6_knownTrader (l := l) (D := D) (cy := cy) (base := base) (st := st) (K := K) (L := L) (c := c) (r := r) (o := o) (z := z) th p1 hk_th hst hc1) (cwV 1 hts gX6_months_X6_knownTrader rfl rfl rfl (by decide +kernel) ⟨Nat.le_of_ble_eq_true rfl, Nat.le_of_ble_eq_true rfl⟩) hG hC (zC.recv (ci := 6) (fs := _) hK hC (by rw [hk_th]; decide) (by rw [hk_th]; exact zc_6 cy _ _) rfl) rfl hl.1 rfl (lv_room (Nat.le_of_ble_eq_true rfl)) dX6_months_2 ⟨Nat.le_of_ble_eq_true rfl, Nat.le_of_ble_eq_true rfl⟩) hC (fun _ H locs q9 ce hq hC h1 h2 h3 => z_xout htab hlocks (hfx _ hq) hC h1 h2 h3 (Nat.le_of_ble_eq_true rfl) (Nat.le_of_ble_eq_true rfl)) (fun o2 H locs hq hC => ?_)
  have hf := hfn _ hq
  obtain ⟨a4, ea4, hk_a4, hf⟩ := zn_inv hf
  refine z_ref ea4 ?_
  refine lv_astore_n (lv' := [(3, .ref a4), (0, .ref th), (1, .int p1), (2, .int p2)]) hx hb dX6_months_5 rfl hl (by decide) rfl (fun ls hl => ?_)
  refine lv_aload_n hx hb dX6_months_6 rfl (lv_at hl 0 rfl) ?_
  refine zg_4_6 hx hb hts hi4 hown hK hC hk_a4 w0 dX6_months_7 ?_
  refine lv_iconst (v := 2) hx hb dX6_months_10 (by decide) ?_
  refine lv_icmp_eq (tgt := 24) hx hb dX6_months_11 (by decide) (fun h11 => ?_) (fun h11 => ?_)
  · have hf := zif_t hf h11
    refine lv_iload_n hx hb dX6_months_24 rfl (lv_at hl 3 rfl) ?_
    refine lv_if_lt (tgt := 35) hx hb dX6_months_25 (by decide) (fun h10 => ?_) (fun h10 => ?_)
    · have hf := zif_t hf h10
      exact z_throw (own := RX6) (cls := "java/lang/IllegalArgumentException") (text := "months are 0 to 4095") (names := ["java/lang/RuntimeException", "java/lang/Exception"]) (ik := 38) (is := 131) (ic := 42) (k := 2) hx hb hst hown rfl rfl w1 w2 (hG.2.2.2.2.2.2.2.1 11 (RX6, 131, "months are 0 to 4095") rfl) (z_hat (ws := wsX6_months) hts (by decide +kernel) (by decide +kernel) (hG.2.2.2.2.2.2.2.2.2.1 _ (by decide +kernel)) hG.2.2.2.2.2.2.2.2.2.2.2.2) (by decide +kernel) hG hC hl.1 hml dX6_months_35 dX6_months_38 dX6_months_39 dX6_months_41 dX6_months_44 htab (Nat.le_of_ble_eq_true rfl) (Nat.le_of_ble_eq_true rfl) (Nat.le_of_ble_eq_true rfl) (Nat.le_of_ble_eq_true rfl) hlocks (Nat.le_of_ble_eq_true rfl) (Nat.le_of_ble_eq_true rfl) hf
    · have hf := zif_f hf h10
      refine lv_iload_n hx hb dX6_months_28 rfl (lv_at hl 3 rfl) ?_
      refine lv_sipush (v := 4095) hx hb dX6_months_29 (by decide) ?_
      refine lv_icmp_le (tgt := 45) hx hb dX6_months_32 (by decide) (fun h9 => ?_) (fun h9 => ?_)
      · have hf := zif_t hf h9
        refine lv_aload_n hx hb dX6_months_45 rfl (lv_at hl 1 rfl) ?_
        refine lv_iconst (v := 0) hx hb dX6_months_46 (by decide) ?_
        refine lv_iconst (v := 0) hx hb dX6_months_47 (by decide) ?_
        obtain ⟨q7, hc5, hfn, hfx⟩ := zt_inv hf
        refine z_xcv (z_rxV (As := [.int 0, .int 0]) (rest := []) ⟨hx, hb, hml, hown, hts⟩ (c_X6_needTime (l := l) (D := D) (cy := cy) (base := base) (st := st) (K := K) (L := L) (c := c) (r := r) (o := o) (z := z) th 0 0 hk_th hst hc5) (cwV 2 hts gX6_months_X6_needTime rfl rfl rfl (by decide +kernel) ⟨Nat.le_of_ble_eq_true rfl, Nat.le_of_ble_eq_true rfl⟩) hG hC (zC.recv (ci := 6) (fs := _) hK hC (by rw [hk_th]; decide) (by rw [hk_th]; exact zc_6 cy _ _) rfl) rfl hl.1 rfl (lv_room (Nat.le_of_ble_eq_true rfl)) dX6_months_48 ⟨Nat.le_of_ble_eq_true rfl, Nat.le_of_ble_eq_true rfl⟩) hC (fun _ H locs q9 ce hq hC h1 h2 h3 => z_xout htab hlocks (hfx _ hq) hC h1 h2 h3 (Nat.le_of_ble_eq_true rfl) (Nat.le_of_ble_eq_true rfl)) (fun H locs hq hC => ?_)
        have hf := hfn _ hq
        refine lv_aload_n hx hb dX6_months_51 rfl (lv_at hl 0 rfl) ?_
        refine lv_iload_n hx hb dX6_months_52 rfl (lv_at hl 3 rfl) ?_
        obtain ⟨c8, ec8, hf⟩ := zlet_inv hf
        refine zp_4_8 hx hb hts hi4 hown hK hC hk_a4 w3 ec8 dX6_months_53 (fun H locs hC => ?_)
        refine W.widen (k := 3) (n := 18) (Nat.le_of_ble_eq_true rfl) (Nat.le_of_ble_eq_true rfl) ?_
        exact z_xvretW hx hb hr hlocks hC hf dX6_months_56
      · have hf := zif_f hf h9
        exact z_throw (own := RX6) (cls := "java/lang/IllegalArgumentException") (text := "months are 0 to 4095") (names := ["java/lang/RuntimeException", "java/lang/Exception"]) (ik := 38) (is := 131) (ic := 42) (k := 2) hx hb hst hown rfl rfl w1 w2 (hG.2.2.2.2.2.2.2.1 11 (RX6, 131, "months are 0 to 4095") rfl) (z_hat (ws := wsX6_months) hts (by decide +kernel) (by decide +kernel) (hG.2.2.2.2.2.2.2.2.2.1 _ (by decide +kernel)) hG.2.2.2.2.2.2.2.2.2.2.2.2) (by decide +kernel) hG hC hl.1 hml dX6_months_35 dX6_months_38 dX6_months_39 dX6_months_41 dX6_months_44 htab (Nat.le_of_ble_eq_true rfl) (Nat.le_of_ble_eq_true rfl) (Nat.le_of_ble_eq_true rfl) (Nat.le_of_ble_eq_true rfl) hlocks (Nat.le_of_ble_eq_true rfl) (Nat.le_of_ble_eq_true rfl) hf
  · have hf := zif_f hf h11
    exact z_throw (own := RX6) (cls := "java/lang/IllegalArgumentException") (text := "only farmers have months") (names := ["java/lang/RuntimeException", "java/lang/Exception"]) (ik := 38) (is := 129) (ic := 42) (k := 2) hx hb hst hown rfl rfl w1 w2 (hG.2.2.2.2.2.2.2.1 10 (RX6, 129, "only farmers have months") rfl) (z_hat (ws := wsX6_months) hts (by decide +kernel) (by decide +kernel) (hG.2.2.2.2.2.2.2.2.2.1 _ (by decide +kernel)) hG.2.2.2.2.2.2.2.2.2.2.2.2) (by decide +kernel) hG hC hl.1 hml dX6_months_14 dX6_months_17 dX6_months_18 dX6_months_20 dX6_months_23 htab (Nat.le_of_ble_eq_true rfl) (Nat.le_of_ble_eq_true rfl) (Nat.le_of_ble_eq_true rfl) (Nat.le_of_ble_eq_true rfl) hlocks (Nat.le_of_ble_eq_true rfl) (Nat.le_of_ble_eq_true rfl) hf
