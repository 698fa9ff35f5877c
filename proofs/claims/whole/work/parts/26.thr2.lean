def f_X6_wish (K : Nat → Nat) (z : Nat) (c : zS) (th : Nat) (p1 : Int32) (p2 : Int32) (p3 : Int32) : Option ((Int32 × zS) ⊕ Nat) :=
  zt (f_X6_knownTrader K z c th p1) fun o2 => zn K o2 4 fun a4 => zn K (zr c 84 a4 0) 5 fun a5 => zb2 (f_X5_add K z c a5 p2 p3) fun x7 c8 => some (.inl (x7, c8))
set_option maxRecDepth 100000 in
set_option maxHeartbeats 4000000 in
theorem c_X6_wish {l : Launch} {D : va_G} {cy : Nat → ClassId} {base : Nat} {st : Nat → Nat} {K : Nat → Nat} {L : List Nat} {c r : zS} {o : Int64} {z : Nat} (th : Nat) (p1 : Int32) (p2 : Int32) (p3 : Int32) {res : (Int32 × zS) ⊕ Nat}  (hk_th : K th = 6) (hst : l.stackTraces = false) (hf : f_X6_wish K z c th p1 p2 p3 = some res) : vx_Met l yX6_wish wsX6_wish ({ frames := 7, cells := 1, slots := 6, locals := 122 }) (va_Pc [.ref th, .int p1, .int p2, .int p3] (zGW zts0 zns0 D cy base st K L (c, r, o))) (va_Qi (fun (rr : Int32) (u : zS) => res = .inl (rr, u)) (fun u => zB D cy base K L (u, r, o)) (zA base)) (vx_X (fun (x : Nat) => res = .inr x) (fun E x t => E = zE x ∧ zB D cy base K L (c, r, o) t) (zA base)) 1 6 (zA base) := by
  refine vx_ofW (cc := cX6_wish) (maxL := 4) (ret := (some .int)) (by decide) rfl ?_
  intro p e s m args below meth cd s₁ B hml htab hv
  obtain ⟨rfl, hG⟩ := hv
  have hx := B.exec
  have hb := B.bytes
  have hr := B.returns
  have hts := atoms_spec (ws := wsX6_wish) B.pre
  have hown : s.vm.findClass RX6 = some m.cls := findClass_of_methodNamed B.named
  have hlocks := B.notSynchronized
  have hC := hG.enter
  have hK := hG.2.2.2.1
  have hi4 : ∀ w ∈ wsX40, w ∈ wsX6_wish := by decide +kernel
  have w0 := hts (.fieldLink RX6 136 "MarketSquare$Trader" "wish" "LMarketSquare$Wish;") (by decide +kernel)
  have hl := lv_entry ([.ref th, .int p1, .int p2, .int p3]) (n := 4) (Nat.le_of_ble_eq_true rfl)
  rw [lg_entry_eq]
  generalize (lg_sl ([.ref th, .int p1, .int p2, .int p3]) ++ List.replicate (4 - (lg_sl ([.ref th, .int p1, .int p2, .int p3])).length) Slot.unset).toArray = ls at hl ⊢
  have hl : lv_has ls 4 [(0, .ref th), (1, .int p1), (2, .int p2), (3, .int p3)] := hl
  unfold f_X6_wish at hf
  refine lv_aload_n hx hb dX6_wish_0 rfl (lv_at hl 0 rfl) ?_
  refine lv_iload_n hx hb dX6_wish_1 rfl (lv_at hl 1 rfl) ?_
  obtain ⟨q3, hc1, hfn, hfx⟩ := zt_inv hf
  refine z_xcq (z_rxV (As := [.int p1]) (rest := []) ⟨hx, hb, hml, hown, hts⟩ (c_X6_knownTrader (l := l) (D := D) (cy := cy) (base := base) (st := st) (K := K) (L := L) (c := c) (r := r) (o := o) (z := z) th p1 hk_th hst hc1) (cwV 1 hts gX6_wish_X6_knownTrader rfl rfl rfl (by decide +kernel) ⟨Nat.le_of_ble_eq_true rfl, Nat.le_of_ble_eq_true rfl⟩) hG hC (zC.recv (ci := 6) (fs := _) hK hC (by rw [hk_th]; decide) (by rw [hk_th]; exact zc_6 cy _ _) rfl) rfl hl.1 rfl (lv_room (Nat.le_of_ble_eq_true rfl)) dX6_wish_2 ⟨Nat.le_of_ble_eq_true rfl, Nat.le_of_ble_eq_true rfl⟩) hC (fun _ H locs q9 ce hq hC h1 h2 h3 => z_xout htab hlocks (hfx _ hq) hC h1 h2 h3 (Nat.le_of_ble_eq_true rfl) (Nat.le_of_ble_eq_true rfl)) (fun o2 H locs hq hC => ?_)
  have hf := hfn _ hq
  obtain ⟨a4, ea4, hk_a4, hf⟩ := zn_inv hf
  refine z_ref ea4 ?_
  refine zg_4_4 hx hb hts hi4 hown hK hC hk_a4 w0 dX6_wish_5 ?_
  obtain ⟨a5, ea5, hk_a5, hf⟩ := zn_inv hf
  refine z_ref ea5 ?_
  refine lv_iload_n hx hb dX6_wish_8 rfl (lv_at hl 2 rfl) ?_
  refine lv_iload_n hx hb dX6_wish_9 rfl (lv_at hl 3 rfl) ?_
  obtain ⟨x7, c8, hc6, hf⟩ := zb2_inv hf
  refine z_ci (z_rV (As := [.int p2, .int p3]) (rest := []) ⟨hx, hb, hml, hown, hts⟩ (c_X5_add (l := l) (D := D) (cy := cy) (base := base) (st := st) (K := K) (L := L) (c := c) (r := r) (o := o) (z := z) a5 p2 p3 hk_a5 hc6) (cwV 2 hts gX6_wish_X5_add rfl rfl rfl (by decide +kernel) ⟨Nat.le_of_ble_eq_true rfl, Nat.le_of_ble_eq_true rfl⟩) hG hC (zC.recv (ci := 5) (fs := _) hK hC (by rw [hk_a5]; decide) (by rw [hk_a5]; exact zc_5 cy _ _) rfl) rfl hl.1 rfl (lv_room (Nat.le_of_ble_eq_true rfl)) dX6_wish_10 ⟨Nat.le_of_ble_eq_true rfl, Nat.le_of_ble_eq_true rfl⟩) hC (fun H locs hC => ?_)
  refine W.widen (k := 1) (n := 6) (Nat.le_of_ble_eq_true rfl) (Nat.le_of_ble_eq_true rfl) ?_
  exact z_xiretW (x := x7) hx hb hr hlocks hC hf dX6_wish_13
def f_X6_wishes (K : Nat → Nat) (z : Nat) (c : zS) (th : Nat) (p1 : Int32) (p2 : Int32) : Option (zS ⊕ Nat) :=
  zt (f_X6_knownTrader K z c th p1) fun o2 => zn K o2 4 fun a4 => zn K (zr c 84 a4 0) 5 fun a5 => zb (f_X5_empty K z c a5 p2) fun c8 => some (.inl c8)
set_option maxRecDepth 100000 in
set_option maxHeartbeats 4000000 in
theorem c_X6_wishes {l : Launch} {D : va_G} {cy : Nat → ClassId} {base : Nat} {st : Nat → Nat} {K : Nat → Nat} {L : List Nat} {c r : zS} {o : Int64} {z : Nat} (th : Nat) (p1 : Int32) (p2 : Int32) {res : zS ⊕ Nat}  (hk_th : K th = 6) (hst : l.stackTraces = false) (hf : f_X6_wishes K z c th p1 p2 = some res) : vx_Met l yX6_wishes wsX6_wishes ({ frames := 7, cells := 1, slots := 6, locals := 122 }) (va_Pc [.ref th, .int p1, .int p2] (zGW zts0 zns0 D cy base st K L (c, r, o))) (va_Qv (fun (u : zS) => res = .inl u) (fun u => zB D cy base K L (u, r, o)) (zA base)) (vx_X (fun (x : Nat) => res = .inr x) (fun E x t => E = zE x ∧ zB D cy base K L (c, r, o) t) (zA base)) 1 6 (zA base) := by
  refine vx_ofW (cc := cX6_wishes) (maxL := 3) (ret := none) (by decide) rfl ?_
  intro p e s m args below meth cd s₁ B hml htab hv
  obtain ⟨rfl, hG⟩ := hv
  have hx := B.exec
  have hb := B.bytes
  have hr := B.returns
  have hts := atoms_spec (ws := wsX6_wishes) B.pre
  have hown : s.vm.findClass RX6 = some m.cls := findClass_of_methodNamed B.named
  have hlocks := B.notSynchronized
  have hC := hG.enter
  have hK := hG.2.2.2.1
  have hi4 : ∀ w ∈ wsX40, w ∈ wsX6_wishes := by decide +kernel
  have w0 := hts (.fieldLink RX6 136 "MarketSquare$Trader" "wish" "LMarketSquare$Wish;") (by decide +kernel)
  have hl := lv_entry ([.ref th, .int p1, .int p2]) (n := 3) (Nat.le_of_ble_eq_true rfl)
  rw [lg_entry_eq]
  generalize (lg_sl ([.ref th, .int p1, .int p2]) ++ List.replicate (3 - (lg_sl ([.ref th, .int p1, .int p2])).length) Slot.unset).toArray = ls at hl ⊢
  have hl : lv_has ls 3 [(0, .ref th), (1, .int p1), (2, .int p2)] := hl
  unfold f_X6_wishes at hf
  refine lv_aload_n hx hb dX6_wishes_0 rfl (lv_at hl 0 rfl) ?_
  refine lv_iload_n hx hb dX6_wishes_1 rfl (lv_at hl 1 rfl) ?_
  obtain ⟨q3, hc1, hfn, hfx⟩ := zt_inv hf
  refine z_xcq (z_rxV (As := [.int p1]) (rest := []) ⟨hx, hb, hml, hown, hts⟩ (c_X6_knownTrader (l := l) (D := D) (cy := cy) (base := base) (st := st) (K := K) (L := L) (c := c) (r := r) (o := o) (z := z) th p1 hk_th hst hc1) (cwV 1 hts gX6_wishes_X6_knownTrader rfl rfl rfl (by decide +kernel) ⟨Nat.le_of_ble_eq_true rfl, Nat.le_of_ble_eq_true rfl⟩) hG hC (zC.recv (ci := 6) (fs := _) hK hC (by rw [hk_th]; decide) (by rw [hk_th]; exact zc_6 cy _ _) rfl) rfl hl.1 rfl (lv_room (Nat.le_of_ble_eq_true rfl)) dX6_wishes_2 ⟨Nat.le_of_ble_eq_true rfl, Nat.le_of_ble_eq_true rfl⟩) hC (fun _ H locs q9 ce hq hC h1 h2 h3 => z_xout htab hlocks (hfx _ hq) hC h1 h2 h3 (Nat.le_of_ble_eq_true rfl) (Nat.le_of_ble_eq_true rfl)) (fun o2 H locs hq hC => ?_)
  have hf := hfn _ hq
  obtain ⟨a4, ea4, hk_a4, hf⟩ := zn_inv hf
  refine z_ref ea4 ?_
  refine zg_4_4 hx hb hts hi4 hown hK hC hk_a4 w0 dX6_wishes_5 ?_
  obtain ⟨a5, ea5, hk_a5, hf⟩ := zn_inv hf
  refine z_ref ea5 ?_
  refine lv_iload_n hx hb dX6_wishes_8 rfl (lv_at hl 2 rfl) ?_
  obtain ⟨c8, hc6, hf⟩ := zb_inv hf
  refine z_cv (z_rV (As := [.int p2]) (rest := []) ⟨hx, hb, hml, hown, hts⟩ (c_X5_empty (l := l) (D := D) (cy := cy) (base := base) (st := st) (K := K) (L := L) (c := c) (r := r) (o := o) (z := z) a5 p2 hk_a5 hc6) (cwV 1 hts gX6_wishes_X5_empty rfl rfl rfl (by decide +kernel) ⟨Nat.le_of_ble_eq_true rfl, Nat.le_of_ble_eq_true rfl⟩) hG hC (zC.recv (ci := 5) (fs := _) hK hC (by rw [hk_a5]; decide) (by rw [hk_a5]; exact zc_5 cy _ _) rfl) rfl hl.1 rfl (lv_room (Nat.le_of_ble_eq_true rfl)) dX6_wishes_9 ⟨Nat.le_of_ble_eq_true rfl, Nat.le_of_ble_eq_true rfl⟩) hC (fun H locs hC => ?_)
  refine W.widen (k := 1) (n := 6) (Nat.le_of_ble_eq_true rfl) (Nat.le_of_ble_eq_true rfl) ?_
  exact z_xvretW hx hb hr hlocks hC hf dX6_wishes_12
def f_X6_want (K : Nat → Nat) (z : Nat) (c : zS) (th : Nat) (p1 : Int32) (p2 : Int32) : Option (zS ⊕ Nat) :=
  zt (f_X6_knownTrader K z c th p1) fun o2 => zn K o2 4 fun a4 => zz p2 <| zlet (zui c 89 a4 0 p2) fun c6 => some (.inl c6)
set_option maxRecDepth 100000 in
set_option maxHeartbeats 4000000 in
theorem c_X6_want {l : Launch} {D : va_G} {cy : Nat → ClassId} {base : Nat} {st : Nat → Nat} {K : Nat → Nat} {L : List Nat} {c r : zS} {o : Int64} {z : Nat} (th : Nat) (p1 : Int32) (p2 : Int32) {res : zS ⊕ Nat}  (hk_th : K th = 6) (hst : l.stackTraces = false) (hf : f_X6_want K z c th p1 p2 = some res) : vx_Met l yX6_want wsX6_want ({ frames := 7, cells := 1, slots := 6, locals := 122 }) (va_Pc [.ref th, .int p1, .int p2] (zGW zts0 zns0 D cy base st K L (c, r, o))) (va_Qv (fun (u : zS) => res = .inl u) (fun u => zB D cy base K L (u, r, o)) (zA base)) (vx_X (fun (x : Nat) => res = .inr x) (fun E x t => E = zE x ∧ zB D cy base K L (c, r, o) t) (zA base)) 1 6 (zA base) := by
  refine vx_ofW (cc := cX6_want) (maxL := 3) (ret := none) (by decide) rfl ?_
  intro p e s m args below meth cd s₁ B hml htab hv
  obtain ⟨rfl, hG⟩ := hv
  have hx := B.exec
  have hb := B.bytes
  have hr := B.returns
  have hts := atoms_spec (ws := wsX6_want) B.pre
  have hown : s.vm.findClass RX6 = some m.cls := findClass_of_methodNamed B.named
  have hlocks := B.notSynchronized
  have hC := hG.enter
  have hK := hG.2.2.2.1
  have hi4 : ∀ w ∈ wsX40, w ∈ wsX6_want := by decide +kernel
  have w0 := hts (.fieldLink RX6 150 "MarketSquare$Trader" "wants" "Z") (by decide +kernel)
  have hl := lv_entry ([.ref th, .int p1, .int p2]) (n := 3) (Nat.le_of_ble_eq_true rfl)
  rw [lg_entry_eq]
  generalize (lg_sl ([.ref th, .int p1, .int p2]) ++ List.replicate (3 - (lg_sl ([.ref th, .int p1, .int p2])).length) Slot.unset).toArray = ls at hl ⊢
  have hl : lv_has ls 3 [(0, .ref th), (1, .int p1), (2, .int p2)] := hl
  unfold f_X6_want at hf
  refine lv_aload_n hx hb dX6_want_0 rfl (lv_at hl 0 rfl) ?_
  refine lv_iload_n hx hb dX6_want_1 rfl (lv_at hl 1 rfl) ?_
  obtain ⟨q3, hc1, hfn, hfx⟩ := zt_inv hf
  refine z_xcq (z_rxV (As := [.int p1]) (rest := []) ⟨hx, hb, hml, hown, hts⟩ (c_X6_knownTrader (l := l) (D := D) (cy := cy) (base := base) (st := st) (K := K) (L := L) (c := c) (r := r) (o := o) (z := z) th p1 hk_th hst hc1) (cwV 1 hts gX6_want_X6_knownTrader rfl rfl rfl (by decide +kernel) ⟨Nat.le_of_ble_eq_true rfl, Nat.le_of_ble_eq_true rfl⟩) hG hC (zC.recv (ci := 6) (fs := _) hK hC (by rw [hk_th]; decide) (by rw [hk_th]; exact zc_6 cy _ _) rfl) rfl hl.1 rfl (lv_room (Nat.le_of_ble_eq_true rfl)) dX6_want_2 ⟨Nat.le_of_ble_eq_true rfl, Nat.le_of_ble_eq_true rfl⟩) hC (fun _ H locs q9 ce hq hC h1 h2 h3 => z_xout htab hlocks (hfx _ hq) hC h1 h2 h3 (Nat.le_of_ble_eq_true rfl) (Nat.le_of_ble_eq_true rfl)) (fun o2 H locs hq hC => ?_)
  have hf := hfn _ hq
  obtain ⟨a4, ea4, hk_a4, hf⟩ := zn_inv hf
  refine z_ref ea4 ?_
  refine lv_iload_n hx hb dX6_want_5 rfl (lv_at hl 2 rfl) ?_
  obtain ⟨hz5, hf⟩ := zz_inv hf
  obtain ⟨c6, ec6, hf⟩ := zlet_inv hf
  refine zp_4_9 hx hb hts hi4 hown hK hC hk_a4 w0 hz5 ec6 dX6_want_6 (fun H locs hC => ?_)
  refine W.widen (k := 1) (n := 6) (Nat.le_of_ble_eq_true rfl) (Nat.le_of_ble_eq_true rfl) ?_
  exact z_xvretW hx hb hr hlocks hC hf dX6_want_9
def f_X6_there (K : Nat → Nat) (z : Nat) (c : zS) (th : Nat) (p1 : Int32) : Option ((Int32 × zS) ⊕ Nat) :=
  zt (f_X6_knownTrader K z c th p1) fun o2 => zn K o2 4 fun a4 => zt (f_X6_needTime K z c th 1 3) fun u6 => zn K (zr c 85 a4 0) 2 fun a8 => (if (zi c 42 a8 0) = 0 then zlet (zui c 42 a8 0 1) fun c9 => zn K (zr c9 85 a4 0) 2 fun a10 => zlet (zui c9 43 a10 0 0) fun c11 => some (.inl (1, c11)) else some (.inl (0, c)))
set_option maxRecDepth 100000 in
set_option maxHeartbeats 4000000 in
theorem c_X6_there {l : Launch} {D : va_G} {cy : Nat → ClassId} {base : Nat} {st : Nat → Nat} {K : Nat → Nat} {L : List Nat} {c r : zS} {o : Int64} {z : Nat} (th : Nat) (p1 : Int32) {res : (Int32 × zS) ⊕ Nat}  (hk_th : K th = 6) (hst : l.stackTraces = false) (hf : f_X6_there K z c th p1 = some res) : vx_Met l yX6_there wsX6_there ({ frames := 7, cells := 2, slots := 12, locals := 122 }) (va_Pc [.ref th, .int p1] (zGW zts0 zns0 D cy base st K L (c, r, o))) (va_Qi (fun (rr : Int32) (u : zS) => res = .inl (rr, u)) (fun u => zB D cy base K L (u, r, o)) (zA base)) (vx_X (fun (x : Nat) => res = .inr x) (fun E x t => E = zE x ∧ zB D cy base K L (c, r, o) t) (zA base)) 2 12 (zA base) := by
  refine vx_ofW (cc := cX6_there) (maxL := 3) (ret := (some .boolean)) (by decide) rfl ?_
  intro p e s m args below meth cd s₁ B hml htab hv
  obtain ⟨rfl, hG⟩ := hv
  have hx := B.exec
  have hb := B.bytes
  have hr := B.returns
  have hts := atoms_spec (ws := wsX6_there) B.pre
  have hown : s.vm.findClass RX6 = some m.cls := findClass_of_methodNamed B.named
  have hlocks := B.notSynchronized
  have hC := hG.enter
  have hK := hG.2.2.2.1
  have hi2 : ∀ w ∈ wsX20, w ∈ wsX6_there := by decide +kernel
  have hi4 : ∀ w ∈ wsX40, w ∈ wsX6_there := by decide +kernel
  have w0 := hts (.fieldLink RX6 168 "MarketSquare$Trader" "today" "LMarketSquare$Today;") (by decide +kernel)
  have w1 := hts (.fieldLink RX6 172 "MarketSquare$Today" "there" "Z") (by decide +kernel)
  have w2 := hts (.fieldLink RX6 177 "MarketSquare$Today" "word" "Z") (by decide +kernel)
  have hl := lv_entry ([.ref th, .int p1]) (n := 3) (Nat.le_of_ble_eq_true rfl)
  rw [lg_entry_eq]
  generalize (lg_sl ([.ref th, .int p1]) ++ List.replicate (3 - (lg_sl ([.ref th, .int p1])).length) Slot.unset).toArray = ls at hl ⊢
  have hl : lv_has ls 3 [(0, .ref th), (1, .int p1)] := hl
  unfold f_X6_there at hf
  refine lv_aload_n hx hb dX6_there_0 rfl (lv_at hl 0 rfl) ?_
  refine lv_iload_n hx hb dX6_there_1 rfl (lv_at hl 1 rfl) ?_
  obtain ⟨q3, hc1, hfn, hfx⟩ := zt_inv hf
  refine z_xcq (z_rxV (As := [.int p1]) (rest := []) ⟨hx, hb, hml, hown, hts⟩ (c_X6_knownTrader (l := l) (D := D) (cy := cy) (base := base) (st := st) (K := K) (L := L) (c := c) (r := r) (o := o) (z := z) th p1 hk_th hst hc1) (cwV 1 hts gX6_there_X6_knownTrader rfl rfl rfl (by decide +kernel) ⟨Nat.le_of_ble_eq_true rfl, Nat.le_of_ble_eq_true rfl⟩) hG hC (zC.recv (ci := 6) (fs := _) hK hC (by rw [hk_th]; decide) (by rw [hk_th]; exact zc_6 cy _ _) rfl) rfl hl.1 rfl (lv_room (Nat.le_of_ble_eq_true rfl)) dX6_there_2 ⟨Nat.le_of_ble_eq_true rfl, Nat.le_of_ble_eq_true rfl⟩) hC (fun _ H locs q9 ce hq hC h1 h2 h3 => z_xout htab hlocks (hfx _ hq) hC h1 h2 h3 (Nat.le_of_ble_eq_true rfl) (Nat.le_of_ble_eq_true rfl)) (fun o2 H locs hq hC => ?_)
  have hf := hfn _ hq
  obtain ⟨a4, ea4, hk_a4, hf⟩ := zn_inv hf
  refine z_ref ea4 ?_
  refine lv_astore_n (lv' := [(2, .ref a4), (0, .ref th), (1, .int p1)]) hx hb dX6_there_5 rfl hl (by decide) rfl (fun ls hl => ?_)
  refine lv_aload_n hx hb dX6_there_6 rfl (lv_at hl 1 rfl) ?_
  refine lv_iconst (v := 1) hx hb dX6_there_7 (by decide) ?_
  refine lv_iconst (v := 3) hx hb dX6_there_8 (by decide) ?_
  obtain ⟨q7, hc5, hfn, hfx⟩ := zt_inv hf
  refine z_xcv (z_rxV (As := [.int 1, .int 3]) (rest := []) ⟨hx, hb, hml, hown, hts⟩ (c_X6_needTime (l := l) (D := D) (cy := cy) (base := base) (st := st) (K := K) (L := L) (c := c) (r := r) (o := o) (z := z) th 1 3 hk_th hst hc5) (cwV 2 hts gX6_there_X6_needTime rfl rfl rfl (by decide +kernel) ⟨Nat.le_of_ble_eq_true rfl, Nat.le_of_ble_eq_true rfl⟩) hG hC (zC.recv (ci := 6) (fs := _) hK hC (by rw [hk_th]; decide) (by rw [hk_th]; exact zc_6 cy _ _) rfl) rfl hl.1 rfl (lv_room (Nat.le_of_ble_eq_true rfl)) dX6_there_9 ⟨Nat.le_of_ble_eq_true rfl, Nat.le_of_ble_eq_true rfl⟩) hC (fun _ H locs q9 ce hq hC h1 h2 h3 => z_xout htab hlocks (hfx _ hq) hC h1 h2 h3 (Nat.le_of_ble_eq_true rfl) (Nat.le_of_ble_eq_true rfl)) (fun H locs hq hC => ?_)
  have hf := hfn _ hq
  refine lv_aload_n hx hb dX6_there_12 rfl (lv_at hl 0 rfl) ?_
  refine zg_4_5 hx hb hts hi4 hown hK hC hk_a4 w0 dX6_there_13 ?_
  obtain ⟨a8, ea8, hk_a8, hf⟩ := zn_inv hf
  refine z_ref ea8 ?_
  refine zg_2_2 hx hb hts hi2 hown hK hC hk_a8 w1 dX6_there_16 ?_
  refine lv_if_eq (tgt := 24) hx hb dX6_there_19 (by decide) (fun h12 => ?_) (fun h12 => ?_)
  · have hf := zif_t hf h12
    refine lv_aload_n hx hb dX6_there_24 rfl (lv_at hl 0 rfl) ?_
    refine zg_4_5 hx hb hts hi4 hown hK hC hk_a4 w0 dX6_there_25 ?_
    refine z_ref ea8 ?_
    refine lv_iconst (v := 1) hx hb dX6_there_28 (by decide) ?_
    obtain ⟨c9, ec9, hf⟩ := zlet_inv hf
    refine zp_2_2 hx hb hts hi2 hown hK hC hk_a8 w1 (Or.inr rfl) ec9 dX6_there_29 (fun H locs hC => ?_)
    refine lv_aload_n hx hb dX6_there_32 rfl (lv_at hl 0 rfl) ?_
    refine zg_4_5 hx hb hts hi4 hown hK hC hk_a4 w0 dX6_there_33 ?_
    obtain ⟨a10, ea10, hk_a10, hf⟩ := zn_inv hf
    refine z_ref ea10 ?_
    refine lv_iconst (v := 0) hx hb dX6_there_36 (by decide) ?_
    obtain ⟨c11, ec11, hf⟩ := zlet_inv hf
    refine zp_2_3 hx hb hts hi2 hown hK hC hk_a10 w2 (Or.inl rfl) ec11 dX6_there_37 (fun H locs hC => ?_)
    refine lv_iconst (v := 1) hx hb dX6_there_40 (by decide) ?_
    refine W.widen (k := 2) (n := 12) (Nat.le_of_ble_eq_true rfl) (Nat.le_of_ble_eq_true rfl) ?_
    exact z_xzretW hx hb hr hlocks hC (Or.inr rfl) hf dX6_there_41
  · have hf := zif_f hf h12
    refine lv_iconst (v := 0) hx hb dX6_there_22 (by decide) ?_
    refine W.widen (k := 2) (n := 12) (Nat.le_of_ble_eq_true rfl) (Nat.le_of_ble_eq_true rfl) ?_
    exact z_xzretW hx hb hr hlocks hC (Or.inl rfl) hf dX6_there_23
def f_X6_word (K : Nat → Nat) (z : Nat) (c : zS) (th : Nat) (p1 : Int32) : Option ((Int32 × zS) ⊕ Nat) :=
  zt (f_X6_knownTrader K z c th p1) fun o2 => zn K o2 4 fun a4 => zt (f_X6_needTime K z c th 1 1) fun u6 => zn K (zr c 85 a4 0) 2 fun a8 => (if (zi c 42 a8 0) = 0 then (if (zi c 43 a8 0) = 0 then zlet (zui c 43 a8 0 1) fun c9 => some (.inl (1, c9)) else some (.inl (0, c))) else some (.inl (0, c)))
set_option maxRecDepth 100000 in
set_option maxHeartbeats 4000000 in
theorem c_X6_word {l : Launch} {D : va_G} {cy : Nat → ClassId} {base : Nat} {st : Nat → Nat} {K : Nat → Nat} {L : List Nat} {c r : zS} {o : Int64} {z : Nat} (th : Nat) (p1 : Int32) {res : (Int32 × zS) ⊕ Nat}  (hk_th : K th = 6) (hst : l.stackTraces = false) (hf : f_X6_word K z c th p1 = some res) : vx_Met l yX6_word wsX6_word ({ frames := 7, cells := 2, slots := 12, locals := 122 }) (va_Pc [.ref th, .int p1] (zGW zts0 zns0 D cy base st K L (c, r, o))) (va_Qi (fun (rr : Int32) (u : zS) => res = .inl (rr, u)) (fun u => zB D cy base K L (u, r, o)) (zA base)) (vx_X (fun (x : Nat) => res = .inr x) (fun E x t => E = zE x ∧ zB D cy base K L (c, r, o) t) (zA base)) 2 12 (zA base) := by
  refine vx_ofW (cc := cX6_word) (maxL := 3) (ret := (some .boolean)) (by decide) rfl ?_
  intro p e s m args below meth cd s₁ B hml htab hv
  obtain ⟨rfl, hG⟩ := hv
  have hx := B.exec
  have hb := B.bytes
  have hr := B.returns
  have hts := atoms_spec (ws := wsX6_word) B.pre
  have hown : s.vm.findClass RX6 = some m.cls := findClass_of_methodNamed B.named
  have hlocks := B.notSynchronized
  have hC := hG.enter
  have hK := hG.2.2.2.1
  have hi2 : ∀ w ∈ wsX20, w ∈ wsX6_word := by decide +kernel
  have hi4 : ∀ w ∈ wsX40, w ∈ wsX6_word := by decide +kernel
  have w0 := hts (.fieldLink RX6 168 "MarketSquare$Trader" "today" "LMarketSquare$Today;") (by decide +kernel)
  have w1 := hts (.fieldLink RX6 172 "MarketSquare$Today" "there" "Z") (by decide +kernel)
  have w2 := hts (.fieldLink RX6 177 "MarketSquare$Today" "word" "Z") (by decide +kernel)
  have hl := lv_entry ([.ref th, .int p1]) (n := 3) (Nat.le_of_ble_eq_true rfl)
  rw [lg_entry_eq]
  generalize (lg_sl ([.ref th, .int p1]) ++ List.replicate (3 - (lg_sl ([.ref th, .int p1])).length) Slot.unset).toArray = ls at hl ⊢
  have hl : lv_has ls 3 [(0, .ref th), (1, .int p1)] := hl
  unfold f_X6_word at hf
  refine lv_aload_n hx hb dX6_word_0 rfl (lv_at hl 0 rfl) ?_
  refine lv_iload_n hx hb dX6_word_1 rfl (lv_at hl 1 rfl) ?_
  obtain ⟨q3, hc1, hfn, hfx⟩ := zt_inv hf
  refine z_xcq (z_rxV (As := [.int p1]) (rest := []) ⟨hx, hb, hml, hown, hts⟩ (c_X6_knownTrader (l := l) (D := D) (cy := cy) (base := base) (st := st) (K := K) (L := L) (c := c) (r := r) (o := o) (z := z) th p1 hk_th hst hc1) (cwV 1 hts gX6_word_X6_knownTrader rfl rfl rfl (by decide +kernel) ⟨Nat.le_of_ble_eq_true rfl, Nat.le_of_ble_eq_true rfl⟩) hG hC (zC.recv (ci := 6) (fs := _) hK hC (by rw [hk_th]; decide) (by rw [hk_th]; exact zc_6 cy _ _) rfl) rfl hl.1 rfl (lv_room (Nat.le_of_ble_eq_true rfl)) dX6_word_2 ⟨Nat.le_of_ble_eq_true rfl, Nat.le_of_ble_eq_true rfl⟩) hC (fun _ H locs q9 ce hq hC h1 h2 h3 => z_xout htab hlocks (hfx _ hq) hC h1 h2 h3 (Nat.le_of_ble_eq_true rfl) (Nat.le_of_ble_eq_true rfl)) (fun o2 H locs hq hC => ?_)
  have hf := hfn _ hq
  obtain ⟨a4, ea4, hk_a4, hf⟩ := zn_inv hf
  refine z_ref ea4 ?_
  refine lv_astore_n (lv' := [(2, .ref a4), (0, .ref th), (1, .int p1)]) hx hb dX6_word_5 rfl hl (by decide) rfl (fun ls hl => ?_)
  refine lv_aload_n hx hb dX6_word_6 rfl (lv_at hl 1 rfl) ?_
  refine lv_iconst (v := 1) hx hb dX6_word_7 (by decide) ?_
  refine lv_iconst (v := 1) hx hb dX6_word_8 (by decide) ?_
  obtain ⟨q7, hc5, hfn, hfx⟩ := zt_inv hf
  refine z_xcv (z_rxV (As := [.int 1, .int 1]) (rest := []) ⟨hx, hb, hml, hown, hts⟩ (c_X6_needTime (l := l) (D := D) (cy := cy) (base := base) (st := st) (K := K) (L := L) (c := c) (r := r) (o := o) (z := z) th 1 1 hk_th hst hc5) (cwV 2 hts gX6_word_X6_needTime rfl rfl rfl (by decide +kernel) ⟨Nat.le_of_ble_eq_true rfl, Nat.le_of_ble_eq_true rfl⟩) hG hC (zC.recv (ci := 6) (fs := _) hK hC (by rw [hk_th]; decide) (by rw [hk_th]; exact zc_6 cy _ _) rfl) rfl hl.1 rfl (lv_room (Nat.le_of_ble_eq_true rfl)) dX6_word_9 ⟨Nat.le_of_ble_eq_true rfl, Nat.le_of_ble_eq_true rfl⟩) hC (fun _ H locs q9 ce hq hC h1 h2 h3 => z_xout htab hlocks (hfx _ hq) hC h1 h2 h3 (Nat.le_of_ble_eq_true rfl) (Nat.le_of_ble_eq_true rfl)) (fun H locs hq hC => ?_)
  have hf := hfn _ hq
  refine lv_aload_n hx hb dX6_word_12 rfl (lv_at hl 0 rfl) ?_
  refine zg_4_5 hx hb hts hi4 hown hK hC hk_a4 w0 dX6_word_13 ?_
  obtain ⟨a8, ea8, hk_a8, hf⟩ := zn_inv hf
  refine z_ref ea8 ?_
  refine zg_2_2 hx hb hts hi2 hown hK hC hk_a8 w1 dX6_word_16 ?_
  refine lv_if_ne (tgt := 32) hx hb dX6_word_19 (by decide) (fun h11 => ?_) (fun h11 => ?_)
  · have hf := zif_f hf h11
    refine lv_iconst (v := 0) hx hb dX6_word_32 (by decide) ?_
    refine W.widen (k := 2) (n := 12) (Nat.le_of_ble_eq_true rfl) (Nat.le_of_ble_eq_true rfl) ?_
    exact z_xzretW hx hb hr hlocks hC (Or.inl rfl) hf dX6_word_33
  · have hf := zif_t hf h11
    refine lv_aload_n hx hb dX6_word_22 rfl (lv_at hl 0 rfl) ?_
    refine zg_4_5 hx hb hts hi4 hown hK hC hk_a4 w0 dX6_word_23 ?_
    refine z_ref ea8 ?_
    refine zg_2_3 hx hb hts hi2 hown hK hC hk_a8 w2 dX6_word_26 ?_
    refine lv_if_eq (tgt := 34) hx hb dX6_word_29 (by decide) (fun h10 => ?_) (fun h10 => ?_)
    · have hf := zif_t hf h10
      refine lv_aload_n hx hb dX6_word_34 rfl (lv_at hl 0 rfl) ?_
      refine zg_4_5 hx hb hts hi4 hown hK hC hk_a4 w0 dX6_word_35 ?_
      refine z_ref ea8 ?_
      refine lv_iconst (v := 1) hx hb dX6_word_38 (by decide) ?_
      obtain ⟨c9, ec9, hf⟩ := zlet_inv hf
      refine zp_2_3 hx hb hts hi2 hown hK hC hk_a8 w2 (Or.inr rfl) ec9 dX6_word_39 (fun H locs hC => ?_)
      refine lv_iconst (v := 1) hx hb dX6_word_42 (by decide) ?_
      refine W.widen (k := 2) (n := 12) (Nat.le_of_ble_eq_true rfl) (Nat.le_of_ble_eq_true rfl) ?_
      exact z_xzretW hx hb hr hlocks hC (Or.inr rfl) hf dX6_word_43
    · have hf := zif_f hf h10
      refine lv_iconst (v := 0) hx hb dX6_word_32 (by decide) ?_
      refine W.widen (k := 2) (n := 12) (Nat.le_of_ble_eq_true rfl) (Nat.le_of_ble_eq_true rfl) ?_
      exact z_xzretW hx hb hr hlocks hC (Or.inl rfl) hf dX6_word_33
def f_X6_why (K : Nat → Nat) (z : Nat) (c : zS) (th : Nat) (p1 : Int32) (p2 : Int32) (p3 : Int32) : Option (Int32 ⊕ Nat) :=
  zt (f_X6_knownTrader K z c th p1) fun o2 => zn K o2 4 fun a4 => zb (f_X6_against K z c th a4 p2 p3) fun x6 => some (.inl x6)
set_option maxRecDepth 100000 in
set_option maxHeartbeats 4000000 in
theorem c_X6_why {l : Launch} {D : va_G} {cy : Nat → ClassId} {base : Nat} {st : Nat → Nat} {K : Nat → Nat} {L : List Nat} {c r : zS} {o : Int64} {z : Nat} (th : Nat) (p1 : Int32) (p2 : Int32) (p3 : Int32) {res : Int32 ⊕ Nat}  (hk_th : K th = 6) (hst : l.stackTraces = false) (hf : f_X6_why K z c th p1 p2 p3 = some res) : vx_Met l yX6_why wsX6_why ({ frames := 7, cells := 1, slots := 6, locals := 122 }) (va_Pc [.ref th, .int p1, .int p2, .int p3] (zGW zts0 zns0 D cy base st K L (c, r, o))) (va_Qi (fun (rr : Int32) (u : Unit) => res = .inl rr) (fun u => zB D cy base K L (c, r, o)) (zA base)) (vx_X (fun (x : Nat) => res = .inr x) (fun E x t => E = zE x ∧ zB D cy base K L (c, r, o) t) (zA base)) 1 6 (zA base) := by
  refine vx_ofW (cc := cX6_why) (maxL := 4) (ret := (some .int)) (by decide) rfl ?_
  intro p e s m args below meth cd s₁ B hml htab hv
  obtain ⟨rfl, hG⟩ := hv
  have hx := B.exec
  have hb := B.bytes
  have hr := B.returns
  have hts := atoms_spec (ws := wsX6_why) B.pre
  have hown : s.vm.findClass RX6 = some m.cls := findClass_of_methodNamed B.named
  have hlocks := B.notSynchronized
  have hC := hG.enter
  have hK := hG.2.2.2.1
  have hl := lv_entry ([.ref th, .int p1, .int p2, .int p3]) (n := 4) (Nat.le_of_ble_eq_true rfl)
  rw [lg_entry_eq]
  generalize (lg_sl ([.ref th, .int p1, .int p2, .int p3]) ++ List.replicate (4 - (lg_sl ([.ref th, .int p1, .int p2, .int p3])).length) Slot.unset).toArray = ls at hl ⊢
  have hl : lv_has ls 4 [(0, .ref th), (1, .int p1), (2, .int p2), (3, .int p3)] := hl
  unfold f_X6_why at hf
  refine lv_aload_n hx hb dX6_why_0 rfl (lv_at hl 0 rfl) ?_
  refine lv_aload_n hx hb dX6_why_1 rfl (lv_at hl 0 rfl) ?_
  refine lv_iload_n hx hb dX6_why_2 rfl (lv_at hl 1 rfl) ?_
  obtain ⟨q3, hc1, hfn, hfx⟩ := zt_inv hf
  refine z_xcq (z_rxV (As := [.int p1]) (rest := [.ref th]) ⟨hx, hb, hml, hown, hts⟩ (c_X6_knownTrader (l := l) (D := D) (cy := cy) (base := base) (st := st) (K := K) (L := L) (c := c) (r := r) (o := o) (z := z) th p1 hk_th hst hc1) (cwV 1 hts gX6_why_X6_knownTrader rfl rfl rfl (by decide +kernel) ⟨Nat.le_of_ble_eq_true rfl, Nat.le_of_ble_eq_true rfl⟩) hG hC (zC.recv (ci := 6) (fs := _) hK hC (by rw [hk_th]; decide) (by rw [hk_th]; exact zc_6 cy _ _) rfl) rfl hl.1 rfl (lv_room (Nat.le_of_ble_eq_true rfl)) dX6_why_3 ⟨Nat.le_of_ble_eq_true rfl, Nat.le_of_ble_eq_true rfl⟩) hC (fun _ H locs q9 ce hq hC h1 h2 h3 => z_xout htab hlocks (hfx _ hq) hC h1 h2 h3 (Nat.le_of_ble_eq_true rfl) (Nat.le_of_ble_eq_true rfl)) (fun o2 H locs hq hC => ?_)
  have hf := hfn _ hq
  obtain ⟨a4, ea4, hk_a4, hf⟩ := zn_inv hf
  refine z_ref ea4 ?_
  refine lv_iload_n hx hb dX6_why_6 rfl (lv_at hl 2 rfl) ?_
  refine lv_iload_n hx hb dX6_why_7 rfl (lv_at hl 3 rfl) ?_
  obtain ⟨x6, hc5, hf⟩ := zb_inv hf
  refine z_ci (z_rV (As := [.ref a4, .int p2, .int p3]) (rest := []) ⟨hx, hb, hml, hown, hts⟩ (c_X6_against (l := l) (D := D) (cy := cy) (base := base) (st := st) (K := K) (L := L) (c := c) (r := r) (o := o) (z := z) th a4 p2 p3 hk_th hk_a4 hc5) (cwV 3 hts gX6_why_X6_against rfl rfl rfl (by decide +kernel) ⟨Nat.le_of_ble_eq_true rfl, Nat.le_of_ble_eq_true rfl⟩) hG hC (zC.recv (ci := 6) (fs := _) hK hC (by rw [hk_th]; decide) (by rw [hk_th]; exact zc_6 cy _ _) rfl) rfl hl.1 rfl (lv_room (Nat.le_of_ble_eq_true rfl)) dX6_why_8 ⟨Nat.le_of_ble_eq_true rfl, Nat.le_of_ble_eq_true rfl⟩) hC (fun H locs hC => ?_)
  refine W.widen (k := 1) (n := 6) (Nat.le_of_ble_eq_true rfl) (Nat.le_of_ble_eq_true rfl) ?_
  exact z_xiret (x := x6) hx hb hr hlocks hC hf dX6_why_11
def f_X6_next_13 (K : Nat → Nat) (z : Nat) (th : Nat) : Nat → zS → Int32 → Int32 → Option ((Int32 × zS) ⊕ Nat)
  | 0, _, _, _ => none
  | n + 1, c9, v1, v2 =>
    (if v1 ≤ v2 then some (.inl ((-1), c9)) else zn K (zr c9 124 th 0) 15 fun a7 => zx v2 200 <| zn K (zr c9 147 a7 (Int32.toNatClampNeg v2)) 4 fun a8 => zb (f_X6_goodSpot K z c9 th a8) fun x10 => (if x10 = (-1) then zn K (zr c9 85 a8 0) 2 fun a11 => zlet (zui c9 45 a11 0 1) fun c12 => zlet (v2 + 1) fun x13 => f_X6_next_13 K z th n c12 v1 x13 else zb (f_X6_open K z c9 th a8 (x10 / 200) (x10 - x10 / 200 * 200)) fun c16 => some (.inl ((zi c16 80 a8 0), c16))))
def f_X6_next (K : Nat → Nat) (z : Nat) (c : zS) (th : Nat) : Option ((Int32 × zS) ⊕ Nat) :=
  zt (f_X6_needTime K z c th 3 3) fun u2 => zb2 (f_X6_lineUpWaiting K z c th) fun x5 c6 => f_X6_next_13 K z th z c6 x5 0
set_option maxRecDepth 100000 in
set_option maxHeartbeats 4000000 in
theorem c_X6_next {l : Launch} {D : va_G} {cy : Nat → ClassId} {base : Nat} {st : Nat → Nat} {K : Nat → Nat} {L : List Nat} {c r : zS} {o : Int64} {z : Nat} (th : Nat) {res : (Int32 × zS) ⊕ Nat}  (hk_th : K th = 6) (hst : l.stackTraces = false) (hf : f_X6_next K z c th = some res) : vx_Met l yX6_next wsX6_next ({ frames := 7, cells := 1, slots := 6, locals := 138 }) (va_Pc [.ref th] (zGW zts0 zns0 D cy base st K L (c, r, o))) (va_Qi (fun (rr : Int32) (u : zS) => res = .inl (rr, u)) (fun u => zB D cy base K L (u, r, o)) (zA base)) (vx_X (fun (x : Nat) => res = .inr x) (fun E x t => E = zE x ∧ zB D cy base K L (c, r, o) t) (zA base)) 1 6 (zA base) := by
  refine vx_ofW (cc := cX6_next) (maxL := 5) (ret := (some .int)) (by decide) rfl ?_
  intro p e s m args below meth cd s₁ B hml htab hv
  obtain ⟨rfl, hG⟩ := hv
  have hx := B.exec
  have hb := B.bytes
  have hr := B.returns
  have hts := atoms_spec (ws := wsX6_next) B.pre
  have hown : s.vm.findClass RX6 = some m.cls := findClass_of_methodNamed B.named
  have hlocks := B.notSynchronized
  have hC := hG.enter
  have hK := hG.2.2.2.1
  have hi2 : ∀ w ∈ wsX20, w ∈ wsX6_next := by decide +kernel
  have hi4 : ∀ w ∈ wsX40, w ∈ wsX6_next := by decide +kernel
  have hi6 : ∀ w ∈ wsX60, w ∈ wsX6_next := by decide +kernel
  have w0 := hts (.fieldLink RX6 30 "MarketSquare" "line" "[LMarketSquare$Trader;") (by decide +kernel)
  have w1 := hts (.fieldLink RX6 168 "MarketSquare$Trader" "today" "LMarketSquare$Today;") (by decide +kernel)
  have w2 := hts (.fieldLink RX6 217 "MarketSquare$Today" "passed" "Z") (by decide +kernel)
  have w3 := hts (.fieldLink RX6 214 "MarketSquare$Trader" "number" "I") (by decide +kernel)
  have hl := lv_entry ([.ref th]) (n := 5) (Nat.le_of_ble_eq_true rfl)
  rw [lg_entry_eq]
  generalize (lg_sl ([.ref th]) ++ List.replicate (5 - (lg_sl ([.ref th])).length) Slot.unset).toArray = ls at hl ⊢
  have hl : lv_has ls 5 [(0, .ref th)] := hl
  have L13 : ∀ (n13 : Nat) (c9 : zS) (H : Heap) (locs : List Loc) (ls : Array Slot) (v1 : Int32) (v2 : Int32), zC D cy base K L (c9, r, o) s.heap H locs → lv_has ls 5 [(0, .ref th), (1, .int v1), (2, .int v2)] → f_X6_next_13 K z th n13 c9 v1 v2 = some res → W p l e (headSpec wsX6_next ({ frames := 7, cells := 1, slots := 6, locals := 138 })).room s m ([.ref th] : List Value).toArray below meth cd H locs 1 6 (vx_MQ below (va_Qi (fun (rr : Int32) (u : zS) => res = .inl (rr, u)) (fun u => zB D cy base K L (u, r, o)) (zA base)) (vx_X (fun (x : Nat) => res = .inr x) (fun E x t => E = zE x ∧ zB D cy base K L (c, r, o) t) (zA base)) ([.ref th] : List Value).toArray s 1 6 (zA base)) (F0 m 13 ls []) := by
    intro n13
    induction n13 with
    | zero => intro c9 H locs ls v1 v2 hC hl hf; rw [f_X6_next_13] at hf; cases hf
    | succ n13 ih13 =>
      intro c9 H locs ls v1 v2 hC hl hf
      rw [f_X6_next_13] at hf
      refine lv_iload_n hx hb dX6_next_13 rfl (lv_at hl 2 rfl) ?_
      refine lv_iload_n hx hb dX6_next_14 rfl (lv_at hl 1 rfl) ?_
      refine lv_icmp_ge (tgt := 74) hx hb dX6_next_15 (by decide) (fun h18 => ?_) (fun h18 => ?_)
      · have hf := zif_t hf h18
        refine lv_iconst (v := (-1)) hx hb dX6_next_74 (by decide) ?_
        refine W.widen (k := 1) (n := 6) (Nat.le_of_ble_eq_true rfl) (Nat.le_of_ble_eq_true rfl) ?_
        exact z_xiretW (x := (-1)) hx hb hr hlocks hC hf dX6_next_75
      · have hf := zif_f hf h18
        refine lv_aload_n hx hb dX6_next_18 rfl (lv_at hl 0 rfl) ?_
        refine zg_6_4 hx hb hts hi6 hown hK hC hk_th w0 dX6_next_19 ?_
        obtain ⟨a7, ea7, hk_a7, hf⟩ := zn_inv hf
        refine z_ref ea7 ?_
        refine lv_iload_n hx hb dX6_next_22 rfl (lv_at hl 2 rfl) ?_
        obtain ⟨hix, hf⟩ := zx_inv hf
        refine xg_15 hx hb hK hC hk_a7 hix dX6_next_23 ?_
        obtain ⟨a8, ea8, hk_a8, hf⟩ := zn_inv hf
        refine z_ref ea8 ?_
        refine lv_astore_n (lv' := [(3, .ref a8), (0, .ref th), (1, .int v1), (2, .int v2)]) hx hb dX6_next_24 rfl hl (by decide) rfl (fun ls hl => ?_)
        refine lv_aload_n hx hb dX6_next_25 rfl (lv_at hl 1 rfl) ?_
        refine lv_aload_n hx hb dX6_next_26 rfl (lv_at hl 0 rfl) ?_
        obtain ⟨x10, hc9, hf⟩ := zb_inv hf
        refine z_ci (z_rV (As := [.ref a8]) (rest := []) ⟨hx, hb, hml, hown, hts⟩ (c_X6_goodSpot (l := l) (D := D) (cy := cy) (base := base) (st := st) (K := K) (L := L) (c := c9) (r := r) (o := o) (z := z) th a8 hk_th hk_a8 hc9) (cwV 1 hts gX6_next_X6_goodSpot rfl rfl rfl (by decide +kernel) ⟨Nat.le_of_ble_eq_true rfl, Nat.le_of_ble_eq_true rfl⟩) hG hC (zC.recv (ci := 6) (fs := _) hK hC (by rw [hk_th]; decide) (by rw [hk_th]; exact zc_6 cy _ _) rfl) rfl hl.1 rfl (lv_room (Nat.le_of_ble_eq_true rfl)) dX6_next_27 ⟨Nat.le_of_ble_eq_true rfl, Nat.le_of_ble_eq_true rfl⟩) hC (fun H locs hC => ?_)
        refine lv_istore (lv' := [(4, .int x10), (3, .ref a8), (0, .ref th), (1, .int v1), (2, .int v2)]) hx hb dX6_next_30 hl (by decide) rfl (fun ls hl => ?_)
        refine lv_iload hx hb dX6_next_32 (lv_at hl 0 rfl) ?_
        refine lv_iconst (v := (-1)) hx hb dX6_next_34 (by decide) ?_
        refine lv_icmp_eq (tgt := 60) hx hb dX6_next_35 (by decide) (fun h17 => ?_) (fun h17 => ?_)
        · have hf := zif_t hf h17
          refine lv_aload_n hx hb dX6_next_60 rfl (lv_at hl 1 rfl) ?_
          refine zg_4_5 hx hb hts hi4 hown hK hC hk_a8 w1 dX6_next_61 ?_
          obtain ⟨a11, ea11, hk_a11, hf⟩ := zn_inv hf
          refine z_ref ea11 ?_
          refine lv_iconst (v := 1) hx hb dX6_next_64 (by decide) ?_
          obtain ⟨c12, ec12, hf⟩ := zlet_inv hf
          refine zp_2_5 hx hb hts hi2 hown hK hC hk_a11 w2 (Or.inr rfl) ec12 dX6_next_65 (fun H locs hC => ?_)
          obtain ⟨x13, ex13, hf⟩ := zlet_inv hf
          refine lv_iinc (v := x13) (lv' := [(2, .int x13), (4, .int x10), (3, .ref a8), (0, .ref th), (1, .int v1)]) hx hb dX6_next_68 hl (k := 4) rfl (by rw [ex13]; rfl) (by decide) rfl (fun ls hl => ?_)
          refine lv_goto (tgt := 13) hx hb dX6_next_71 (by decide) ?_
          exact ih13 _ _ _ _ v1 x13 hC (lv_sub hl [3, 4, 0] rfl) hf
        · have hf := zif_f hf h17
          refine lv_aload_n hx hb dX6_next_38 rfl (lv_at hl 2 rfl) ?_
          refine lv_aload_n hx hb dX6_next_39 rfl (lv_at hl 1 rfl) ?_
          refine lv_iload hx hb dX6_next_40 (lv_at hl 0 rfl) ?_
          refine lv_sipush (v := 200) hx hb dX6_next_42 (by decide) ?_
          refine lv_idiv hx hb dX6_next_45 (by decide) ?_
          refine lv_iload hx hb dX6_next_46 (lv_at hl 0 rfl) ?_
          refine lv_sipush (v := 200) hx hb dX6_next_48 (by decide) ?_
          refine lv_irem hx hb dX6_next_51 (by decide) ?_
          obtain ⟨c16, hc14, hf⟩ := zb_inv hf
          refine z_cv (z_rV (As := [.ref a8, .int (x10 / 200), .int (x10 - x10 / 200 * 200)]) (rest := []) ⟨hx, hb, hml, hown, hts⟩ (c_X6_open (l := l) (D := D) (cy := cy) (base := base) (st := st) (K := K) (L := L) (c := c9) (r := r) (o := o) (z := z) th a8 (x10 / 200) (x10 - x10 / 200 * 200) hk_th hk_a8 hc14) (cwV 3 hts gX6_next_X6_open rfl rfl rfl (by decide +kernel) ⟨Nat.le_of_ble_eq_true rfl, Nat.le_of_ble_eq_true rfl⟩) hG hC (zC.recv (ci := 6) (fs := _) hK hC (by rw [hk_th]; decide) (by rw [hk_th]; exact zc_6 cy _ _) rfl) rfl hl.1 rfl (lv_room (Nat.le_of_ble_eq_true rfl)) dX6_next_52 ⟨Nat.le_of_ble_eq_true rfl, Nat.le_of_ble_eq_true rfl⟩) hC (fun H locs hC => ?_)
          refine lv_aload_n hx hb dX6_next_55 rfl (lv_at hl 1 rfl) ?_
          refine zg_4_0 hx hb hts hi4 hown hK hC hk_a8 w3 dX6_next_56 ?_
          refine W.widen (k := 1) (n := 6) (Nat.le_of_ble_eq_true rfl) (Nat.le_of_ble_eq_true rfl) ?_
          exact z_xiretW (x := (zi c16 80 a8 0)) hx hb hr hlocks hC hf dX6_next_59
  unfold f_X6_next at hf
  refine lv_aload_n hx hb dX6_next_0 rfl (lv_at hl 0 rfl) ?_
  refine lv_iconst (v := 3) hx hb dX6_next_1 (by decide) ?_
  refine lv_iconst (v := 3) hx hb dX6_next_2 (by decide) ?_
  obtain ⟨q3, hc1, hfn, hfx⟩ := zt_inv hf
  refine z_xcv (z_rxV (As := [.int 3, .int 3]) (rest := []) ⟨hx, hb, hml, hown, hts⟩ (c_X6_needTime (l := l) (D := D) (cy := cy) (base := base) (st := st) (K := K) (L := L) (c := c) (r := r) (o := o) (z := z) th 3 3 hk_th hst hc1) (cwV 2 hts gX6_next_X6_needTime rfl rfl rfl (by decide +kernel) ⟨Nat.le_of_ble_eq_true rfl, Nat.le_of_ble_eq_true rfl⟩) hG hC (zC.recv (ci := 6) (fs := _) hK hC (by rw [hk_th]; decide) (by rw [hk_th]; exact zc_6 cy _ _) rfl) rfl hl.1 rfl (lv_room (Nat.le_of_ble_eq_true rfl)) dX6_next_3 ⟨Nat.le_of_ble_eq_true rfl, Nat.le_of_ble_eq_true rfl⟩) hC (fun _ H locs q9 ce hq hC h1 h2 h3 => z_xout htab hlocks (hfx _ hq) hC h1 h2 h3 (Nat.le_of_ble_eq_true rfl) (Nat.le_of_ble_eq_true rfl)) (fun H locs hq hC => ?_)
  have hf := hfn _ hq
  refine lv_aload_n hx hb dX6_next_6 rfl (lv_at hl 0 rfl) ?_
  obtain ⟨x5, c6, hc4, hf⟩ := zb2_inv hf
  refine z_ci (z_rV (As := []) (rest := []) ⟨hx, hb, hml, hown, hts⟩ (c_X6_lineUpWaiting (l := l) (D := D) (cy := cy) (base := base) (st := st) (K := K) (L := L) (c := c) (r := r) (o := o) (z := z) th hk_th hc4) (cwV 0 hts gX6_next_X6_lineUpWaiting rfl rfl rfl (by decide +kernel) ⟨Nat.le_of_ble_eq_true rfl, Nat.le_of_ble_eq_true rfl⟩) hG hC (zC.recv (ci := 6) (fs := _) hK hC (by rw [hk_th]; decide) (by rw [hk_th]; exact zc_6 cy _ _) rfl) rfl hl.1 rfl (lv_room (Nat.le_of_ble_eq_true rfl)) dX6_next_7 ⟨Nat.le_of_ble_eq_true rfl, Nat.le_of_ble_eq_true rfl⟩) hC (fun H locs hC => ?_)
  refine lv_istore_n (lv' := [(1, .int x5), (0, .ref th)]) hx hb dX6_next_10 rfl hl (by decide) rfl (fun ls hl => ?_)
  refine lv_iconst (v := 0) hx hb dX6_next_11 (by decide) ?_
  refine lv_istore_n (lv' := [(2, .int 0), (1, .int x5), (0, .ref th)]) hx hb dX6_next_12 rfl hl (by decide) rfl (fun ls hl => ?_)
  exact L13 z _ _ _ _ x5 0 hC (lv_sub hl [2, 1, 0] rfl) hf
def f_X6_move (K : Nat → Nat) (z : Nat) (c : zS) (th : Nat) (p1 : Int32) (p2 : Int32) (p3 : Int32) : Option ((Int32 × zS) ⊕ Nat) :=
  zt (f_X6_knownTrader K z c th p1) fun o2 => zn K o2 4 fun a4 => zt (f_X6_needTime K z c th 2 3) fun u6 => zn K (zr c 85 a4 0) 2 fun a8 => zn K (zr c 40 a8 0) 1 fun a9 => (if (zi c 20 a9 0) = 0 then some (.inl (0, c)) else zb (f_X6_against K z c th a4 p2 p3) fun x11 => (if x11 = 0 then zb (f_X6_takeDown K z c th a4) fun c14 => zb (f_X6_setUp K z c14 th a4 p2 p3) fun c17 => some (.inl (1, c17)) else some (.inl (0, c))))
set_option maxRecDepth 100000 in
set_option maxHeartbeats 4000000 in
theorem c_X6_move {l : Launch} {D : va_G} {cy : Nat → ClassId} {base : Nat} {st : Nat → Nat} {K : Nat → Nat} {L : List Nat} {c r : zS} {o : Int64} {z : Nat} (th : Nat) (p1 : Int32) (p2 : Int32) (p3 : Int32) {res : (Int32 × zS) ⊕ Nat}  (hk_th : K th = 6) (hst : l.stackTraces = false) (hf : f_X6_move K z c th p1 p2 p3 = some res) : vx_Met l yX6_move wsX6_move ({ frames := 7, cells := 2, slots := 12, locals := 122 }) (va_Pc [.ref th, .int p1, .int p2, .int p3] (zGW zts0 zns0 D cy base st K L (c, r, o))) (va_Qi (fun (rr : Int32) (u : zS) => res = .inl (rr, u)) (fun u => zB D cy base K L (u, r, o)) (zA base)) (vx_X (fun (x : Nat) => res = .inr x) (fun E x t => E = zE x ∧ zB D cy base K L (c, r, o) t) (zA base)) 2 12 (zA base) := by
  refine vx_ofW (cc := cX6_move) (maxL := 5) (ret := (some .boolean)) (by decide) rfl ?_
  intro p e s m args below meth cd s₁ B hml htab hv
  obtain ⟨rfl, hG⟩ := hv
  have hx := B.exec
  have hb := B.bytes
  have hr := B.returns
  have hts := atoms_spec (ws := wsX6_move) B.pre
  have hown : s.vm.findClass RX6 = some m.cls := findClass_of_methodNamed B.named
  have hlocks := B.notSynchronized
  have hC := hG.enter
  have hK := hG.2.2.2.1
  have hi1 : ∀ w ∈ wsX10, w ∈ wsX6_move := by decide +kernel
  have hi2 : ∀ w ∈ wsX20, w ∈ wsX6_move := by decide +kernel
  have hi4 : ∀ w ∈ wsX40, w ∈ wsX6_move := by decide +kernel
  have w0 := hts (.fieldLink RX6 168 "MarketSquare$Trader" "today" "LMarketSquare$Today;") (by decide +kernel)
  have w1 := hts (.fieldLink RX6 224 "MarketSquare$Today" "stall" "LMarketSquare$Spot;") (by decide +kernel)
  have w2 := hts (.fieldLink RX6 227 "MarketSquare$Spot" "isSet" "Z") (by decide +kernel)
  have hl := lv_entry ([.ref th, .int p1, .int p2, .int p3]) (n := 5) (Nat.le_of_ble_eq_true rfl)
  rw [lg_entry_eq]
  generalize (lg_sl ([.ref th, .int p1, .int p2, .int p3]) ++ List.replicate (5 - (lg_sl ([.ref th, .int p1, .int p2, .int p3])).length) Slot.unset).toArray = ls at hl ⊢
  have hl : lv_has ls 5 [(0, .ref th), (1, .int p1), (2, .int p2), (3, .int p3)] := hl
  unfold f_X6_move at hf
  refine lv_aload_n hx hb dX6_move_0 rfl (lv_at hl 0 rfl) ?_
  refine lv_iload_n hx hb dX6_move_1 rfl (lv_at hl 1 rfl) ?_
  obtain ⟨q3, hc1, hfn, hfx⟩ := zt_inv hf
  refine z_xcq (z_rxV (As := [.int p1]) (rest := []) ⟨hx, hb, hml, hown, hts⟩ (c_X6_knownTrader (l := l) (D := D) (cy := cy) (base := base) (st := st) (K := K) (L := L) (c := c) (r := r) (o := o) (z := z) th p1 hk_th hst hc1) (cwV 1 hts gX6_move_X6_knownTrader rfl rfl rfl (by decide +kernel) ⟨Nat.le_of_ble_eq_true rfl, Nat.le_of_ble_eq_true rfl⟩) hG hC (zC.recv (ci := 6) (fs := _) hK hC (by rw [hk_th]; decide) (by rw [hk_th]; exact zc_6 cy _ _) rfl) rfl hl.1 rfl (lv_room (Nat.le_of_ble_eq_true rfl)) dX6_move_2 ⟨Nat.le_of_ble_eq_true rfl, Nat.le_of_ble_eq_true rfl⟩) hC (fun _ H locs q9 ce hq hC h1 h2 h3 => z_xout htab hlocks (hfx _ hq) hC h1 h2 h3 (Nat.le_of_ble_eq_true rfl) (Nat.le_of_ble_eq_true rfl)) (fun o2 H locs hq hC => ?_)
  have hf := hfn _ hq
  obtain ⟨a4, ea4, hk_a4, hf⟩ := zn_inv hf
  refine z_ref ea4 ?_
  refine lv_astore (lv' := [(4, .ref a4), (0, .ref th), (1, .int p1), (2, .int p2), (3, .int p3)]) hx hb dX6_move_5 hl (by decide) rfl (fun ls hl => ?_)
  refine lv_aload_n hx hb dX6_move_7 rfl (lv_at hl 1 rfl) ?_
  refine lv_iconst (v := 2) hx hb dX6_move_8 (by decide) ?_
  refine lv_iconst (v := 3) hx hb dX6_move_9 (by decide) ?_
  obtain ⟨q7, hc5, hfn, hfx⟩ := zt_inv hf
  refine z_xcv (z_rxV (As := [.int 2, .int 3]) (rest := []) ⟨hx, hb, hml, hown, hts⟩ (c_X6_needTime (l := l) (D := D) (cy := cy) (base := base) (st := st) (K := K) (L := L) (c := c) (r := r) (o := o) (z := z) th 2 3 hk_th hst hc5) (cwV 2 hts gX6_move_X6_needTime rfl rfl rfl (by decide +kernel) ⟨Nat.le_of_ble_eq_true rfl, Nat.le_of_ble_eq_true rfl⟩) hG hC (zC.recv (ci := 6) (fs := _) hK hC (by rw [hk_th]; decide) (by rw [hk_th]; exact zc_6 cy _ _) rfl) rfl hl.1 rfl (lv_room (Nat.le_of_ble_eq_true rfl)) dX6_move_10 ⟨Nat.le_of_ble_eq_true rfl, Nat.le_of_ble_eq_true rfl⟩) hC (fun _ H locs q9 ce hq hC h1 h2 h3 => z_xout htab hlocks (hfx _ hq) hC h1 h2 h3 (Nat.le_of_ble_eq_true rfl) (Nat.le_of_ble_eq_true rfl)) (fun H locs hq hC => ?_)
  have hf := hfn _ hq
  refine lv_aload hx hb dX6_move_13 (lv_at hl 0 rfl) ?_
  refine zg_4_5 hx hb hts hi4 hown hK hC hk_a4 w0 dX6_move_15 ?_
  obtain ⟨a8, ea8, hk_a8, hf⟩ := zn_inv hf
  refine z_ref ea8 ?_
  refine zg_2_0 hx hb hts hi2 hown hK hC hk_a8 w1 dX6_move_18 ?_
  obtain ⟨a9, ea9, hk_a9, hf⟩ := zn_inv hf
  refine z_ref ea9 ?_
  refine zg_1_0 hx hb hts hi1 hown hK hC hk_a9 w2 dX6_move_21 ?_
  refine lv_if_eq (tgt := 38) hx hb dX6_move_24 (by decide) (fun h19 => ?_) (fun h19 => ?_)
  · have hf := zif_t hf h19
    refine lv_iconst (v := 0) hx hb dX6_move_38 (by decide) ?_
    refine W.widen (k := 2) (n := 12) (Nat.le_of_ble_eq_true rfl) (Nat.le_of_ble_eq_true rfl) ?_
    exact z_xzretW hx hb hr hlocks hC (Or.inl rfl) hf dX6_move_39
  · have hf := zif_f hf h19
    refine lv_aload_n hx hb dX6_move_27 rfl (lv_at hl 1 rfl) ?_
    refine lv_aload hx hb dX6_move_28 (lv_at hl 0 rfl) ?_
    refine lv_iload_n hx hb dX6_move_30 rfl (lv_at hl 3 rfl) ?_
    refine lv_iload_n hx hb dX6_move_31 rfl (lv_at hl 4 rfl) ?_
    obtain ⟨x11, hc10, hf⟩ := zb_inv hf
    refine z_ci (z_rV (As := [.ref a4, .int p2, .int p3]) (rest := []) ⟨hx, hb, hml, hown, hts⟩ (c_X6_against (l := l) (D := D) (cy := cy) (base := base) (st := st) (K := K) (L := L) (c := c) (r := r) (o := o) (z := z) th a4 p2 p3 hk_th hk_a4 hc10) (cwV 3 hts gX6_move_X6_against rfl rfl rfl (by decide +kernel) ⟨Nat.le_of_ble_eq_true rfl, Nat.le_of_ble_eq_true rfl⟩) hG hC (zC.recv (ci := 6) (fs := _) hK hC (by rw [hk_th]; decide) (by rw [hk_th]; exact zc_6 cy _ _) rfl) rfl hl.1 rfl (lv_room (Nat.le_of_ble_eq_true rfl)) dX6_move_32 ⟨Nat.le_of_ble_eq_true rfl, Nat.le_of_ble_eq_true rfl⟩) hC (fun H locs hC => ?_)
    refine lv_if_eq (tgt := 40) hx hb dX6_move_35 (by decide) (fun h18 => ?_) (fun h18 => ?_)
    · have hf := zif_t hf h18
      refine lv_aload_n hx hb dX6_move_40 rfl (lv_at hl 1 rfl) ?_
      refine lv_aload hx hb dX6_move_41 (lv_at hl 0 rfl) ?_
      obtain ⟨c14, hc12, hf⟩ := zb_inv hf
      refine z_cv (z_rV (As := [.ref a4]) (rest := []) ⟨hx, hb, hml, hown, hts⟩ (c_X6_takeDown (l := l) (D := D) (cy := cy) (base := base) (st := st) (K := K) (L := L) (c := c) (r := r) (o := o) (z := z) th a4 hk_th hk_a4 hc12) (cwV 1 hts gX6_move_X6_takeDown rfl rfl rfl (by decide +kernel) ⟨Nat.le_of_ble_eq_true rfl, Nat.le_of_ble_eq_true rfl⟩) hG hC (zC.recv (ci := 6) (fs := _) hK hC (by rw [hk_th]; decide) (by rw [hk_th]; exact zc_6 cy _ _) rfl) rfl hl.1 rfl (lv_room (Nat.le_of_ble_eq_true rfl)) dX6_move_43 ⟨Nat.le_of_ble_eq_true rfl, Nat.le_of_ble_eq_true rfl⟩) hC (fun H locs hC => ?_)
      refine lv_aload_n hx hb dX6_move_46 rfl (lv_at hl 1 rfl) ?_
      refine lv_aload hx hb dX6_move_47 (lv_at hl 0 rfl) ?_
      refine lv_iload_n hx hb dX6_move_49 rfl (lv_at hl 3 rfl) ?_
      refine lv_iload_n hx hb dX6_move_50 rfl (lv_at hl 4 rfl) ?_
      obtain ⟨c17, hc15, hf⟩ := zb_inv hf
      refine z_cv (z_rV (As := [.ref a4, .int p2, .int p3]) (rest := []) ⟨hx, hb, hml, hown, hts⟩ (c_X6_setUp (l := l) (D := D) (cy := cy) (base := base) (st := st) (K := K) (L := L) (c := c14) (r := r) (o := o) (z := z) th a4 p2 p3 hk_th hk_a4 hc15) (cwV 3 hts gX6_move_X6_setUp rfl rfl rfl (by decide +kernel) ⟨Nat.le_of_ble_eq_true rfl, Nat.le_of_ble_eq_true rfl⟩) hG hC (zC.recv (ci := 6) (fs := _) hK hC (by rw [hk_th]; decide) (by rw [hk_th]; exact zc_6 cy _ _) rfl) rfl hl.1 rfl (lv_room (Nat.le_of_ble_eq_true rfl)) dX6_move_51 ⟨Nat.le_of_ble_eq_true rfl, Nat.le_of_ble_eq_true rfl⟩) hC (fun H locs hC => ?_)
      refine lv_iconst (v := 1) hx hb dX6_move_54 (by decide) ?_
      refine W.widen (k := 2) (n := 12) (Nat.le_of_ble_eq_true rfl) (Nat.le_of_ble_eq_true rfl) ?_
      exact z_xzretW hx hb hr hlocks hC (Or.inr rfl) hf dX6_move_55
    · have hf := zif_f hf h18
      refine lv_iconst (v := 0) hx hb dX6_move_38 (by decide) ?_
      refine W.widen (k := 2) (n := 12) (Nat.le_of_ble_eq_true rfl) (Nat.le_of_ble_eq_true rfl) ?_
      exact z_xzretW hx hb hr hlocks hC (Or.inl rfl) hf dX6_move_39
def f_X6_leave (K : Nat → Nat) (z : Nat) (c : zS) (th : Nat) (p1 : Int32) : Option ((Int32 × zS) ⊕ Nat) :=
  zt (f_X6_knownTrader K z c th p1) fun o2 => zn K o2 4 fun a4 => zt (f_X6_needTime K z c th 2 3) fun u6 => zn K (zr c 85 a4 0) 2 fun a8 => zn K (zr c 40 a8 0) 1 fun a9 => (if (zi c 20 a9 0) = 0 then some (.inl ((-1), c)) else zlet (zui c 46 a8 0 1) fun c10 => zb2 (f_X6_chargeAndTakeDown K z c10 th a4) fun x12 c13 => some (.inl (x12, c13)))
set_option maxRecDepth 100000 in
set_option maxHeartbeats 4000000 in
theorem c_X6_leave {l : Launch} {D : va_G} {cy : Nat → ClassId} {base : Nat} {st : Nat → Nat} {K : Nat → Nat} {L : List Nat} {c r : zS} {o : Int64} {z : Nat} (th : Nat) (p1 : Int32) {res : (Int32 × zS) ⊕ Nat}  (hk_th : K th = 6) (hst : l.stackTraces = false) (hf : f_X6_leave K z c th p1 = some res) : vx_Met l yX6_leave wsX6_leave ({ frames := 7, cells := 2, slots := 12, locals := 122 }) (va_Pc [.ref th, .int p1] (zGW zts0 zns0 D cy base st K L (c, r, o))) (va_Qi (fun (rr : Int32) (u : zS) => res = .inl (rr, u)) (fun u => zB D cy base K L (u, r, o)) (zA base)) (vx_X (fun (x : Nat) => res = .inr x) (fun E x t => E = zE x ∧ zB D cy base K L (c, r, o) t) (zA base)) 2 12 (zA base) := by
  refine vx_ofW (cc := cX6_leave) (maxL := 3) (ret := (some .int)) (by decide) rfl ?_
  intro p e s m args below meth cd s₁ B hml htab hv
  obtain ⟨rfl, hG⟩ := hv
  have hx := B.exec
  have hb := B.bytes
  have hr := B.returns
  have hts := atoms_spec (ws := wsX6_leave) B.pre
  have hown : s.vm.findClass RX6 = some m.cls := findClass_of_methodNamed B.named
  have hlocks := B.notSynchronized
  have hC := hG.enter
  have hK := hG.2.2.2.1
  have hi1 : ∀ w ∈ wsX10, w ∈ wsX6_leave := by decide +kernel
  have hi2 : ∀ w ∈ wsX20, w ∈ wsX6_leave := by decide +kernel
  have hi4 : ∀ w ∈ wsX40, w ∈ wsX6_leave := by decide +kernel
  have w0 := hts (.fieldLink RX6 168 "MarketSquare$Trader" "today" "LMarketSquare$Today;") (by decide +kernel)
  have w1 := hts (.fieldLink RX6 224 "MarketSquare$Today" "stall" "LMarketSquare$Spot;") (by decide +kernel)
  have w2 := hts (.fieldLink RX6 227 "MarketSquare$Spot" "isSet" "Z") (by decide +kernel)
  have w3 := hts (.fieldLink RX6 240 "MarketSquare$Today" "left" "Z") (by decide +kernel)
  have hl := lv_entry ([.ref th, .int p1]) (n := 3) (Nat.le_of_ble_eq_true rfl)
  rw [lg_entry_eq]
  generalize (lg_sl ([.ref th, .int p1]) ++ List.replicate (3 - (lg_sl ([.ref th, .int p1])).length) Slot.unset).toArray = ls at hl ⊢
  have hl : lv_has ls 3 [(0, .ref th), (1, .int p1)] := hl
  unfold f_X6_leave at hf
  refine lv_aload_n hx hb dX6_leave_0 rfl (lv_at hl 0 rfl) ?_
  refine lv_iload_n hx hb dX6_leave_1 rfl (lv_at hl 1 rfl) ?_
  obtain ⟨q3, hc1, hfn, hfx⟩ := zt_inv hf
  refine z_xcq (z_rxV (As := [.int p1]) (rest := []) ⟨hx, hb, hml, hown, hts⟩ (c_X6_knownTrader (l := l) (D := D) (cy := cy) (base := base) (st := st) (K := K) (L := L) (c := c) (r := r) (o := o) (z := z) th p1 hk_th hst hc1) (cwV 1 hts gX6_leave_X6_knownTrader rfl rfl rfl (by decide +kernel) ⟨Nat.le_of_ble_eq_true rfl, Nat.le_of_ble_eq_true rfl⟩) hG hC (zC.recv (ci := 6) (fs := _) hK hC (by rw [hk_th]; decide) (by rw [hk_th]; exact zc_6 cy _ _) rfl) rfl hl.1 rfl (lv_room (Nat.le_of_ble_eq_true rfl)) dX6_leave_2 ⟨Nat.le_of_ble_eq_true rfl, Nat.le_of_ble_eq_true rfl⟩) hC (fun _ H locs q9 ce hq hC h1 h2 h3 => z_xout htab hlocks (hfx _ hq) hC h1 h2 h3 (Nat.le_of_ble_eq_true rfl) (Nat.le_of_ble_eq_true rfl)) (fun o2 H locs hq hC => ?_)
  have hf := hfn _ hq
  obtain ⟨a4, ea4, hk_a4, hf⟩ := zn_inv hf
  refine z_ref ea4 ?_
  refine lv_astore_n (lv' := [(2, .ref a4), (0, .ref th), (1, .int p1)]) hx hb dX6_leave_5 rfl hl (by decide) rfl (fun ls hl => ?_)
  refine lv_aload_n hx hb dX6_leave_6 rfl (lv_at hl 1 rfl) ?_
  refine lv_iconst (v := 2) hx hb dX6_leave_7 (by decide) ?_
  refine lv_iconst (v := 3) hx hb dX6_leave_8 (by decide) ?_
  obtain ⟨q7, hc5, hfn, hfx⟩ := zt_inv hf
  refine z_xcv (z_rxV (As := [.int 2, .int 3]) (rest := []) ⟨hx, hb, hml, hown, hts⟩ (c_X6_needTime (l := l) (D := D) (cy := cy) (base := base) (st := st) (K := K) (L := L) (c := c) (r := r) (o := o) (z := z) th 2 3 hk_th hst hc5) (cwV 2 hts gX6_leave_X6_needTime rfl rfl rfl (by decide +kernel) ⟨Nat.le_of_ble_eq_true rfl, Nat.le_of_ble_eq_true rfl⟩) hG hC (zC.recv (ci := 6) (fs := _) hK hC (by rw [hk_th]; decide) (by rw [hk_th]; exact zc_6 cy _ _) rfl) rfl hl.1 rfl (lv_room (Nat.le_of_ble_eq_true rfl)) dX6_leave_9 ⟨Nat.le_of_ble_eq_true rfl, Nat.le_of_ble_eq_true rfl⟩) hC (fun _ H locs q9 ce hq hC h1 h2 h3 => z_xout htab hlocks (hfx _ hq) hC h1 h2 h3 (Nat.le_of_ble_eq_true rfl) (Nat.le_of_ble_eq_true rfl)) (fun H locs hq hC => ?_)
  have hf := hfn _ hq
  refine lv_aload_n hx hb dX6_leave_12 rfl (lv_at hl 0 rfl) ?_
  refine zg_4_5 hx hb hts hi4 hown hK hC hk_a4 w0 dX6_leave_13 ?_
  obtain ⟨a8, ea8, hk_a8, hf⟩ := zn_inv hf
  refine z_ref ea8 ?_
  refine zg_2_0 hx hb hts hi2 hown hK hC hk_a8 w1 dX6_leave_16 ?_
  obtain ⟨a9, ea9, hk_a9, hf⟩ := zn_inv hf
  refine z_ref ea9 ?_
  refine zg_1_0 hx hb hts hi1 hown hK hC hk_a9 w2 dX6_leave_19 ?_
  refine lv_if_ne (tgt := 27) hx hb dX6_leave_22 (by decide) (fun h14 => ?_) (fun h14 => ?_)
  · have hf := zif_f hf h14
    refine lv_aload_n hx hb dX6_leave_27 rfl (lv_at hl 0 rfl) ?_
    refine zg_4_5 hx hb hts hi4 hown hK hC hk_a4 w0 dX6_leave_28 ?_
    refine z_ref ea8 ?_
    refine lv_iconst (v := 1) hx hb dX6_leave_31 (by decide) ?_
    obtain ⟨c10, ec10, hf⟩ := zlet_inv hf
    refine zp_2_6 hx hb hts hi2 hown hK hC hk_a8 w3 (Or.inr rfl) ec10 dX6_leave_32 (fun H locs hC => ?_)
    refine lv_aload_n hx hb dX6_leave_35 rfl (lv_at hl 1 rfl) ?_
    refine lv_aload_n hx hb dX6_leave_36 rfl (lv_at hl 0 rfl) ?_
    obtain ⟨x12, c13, hc11, hf⟩ := zb2_inv hf
    refine z_ci (z_rV (As := [.ref a4]) (rest := []) ⟨hx, hb, hml, hown, hts⟩ (c_X6_chargeAndTakeDown (l := l) (D := D) (cy := cy) (base := base) (st := st) (K := K) (L := L) (c := c10) (r := r) (o := o) (z := z) th a4 hk_th hk_a4 hc11) (cwV 1 hts gX6_leave_X6_chargeAndTakeDown rfl rfl rfl (by decide +kernel) ⟨Nat.le_of_ble_eq_true rfl, Nat.le_of_ble_eq_true rfl⟩) hG hC (zC.recv (ci := 6) (fs := _) hK hC (by rw [hk_th]; decide) (by rw [hk_th]; exact zc_6 cy _ _) rfl) rfl hl.1 rfl (lv_room (Nat.le_of_ble_eq_true rfl)) dX6_leave_37 ⟨Nat.le_of_ble_eq_true rfl, Nat.le_of_ble_eq_true rfl⟩) hC (fun H locs hC => ?_)
    refine W.widen (k := 2) (n := 12) (Nat.le_of_ble_eq_true rfl) (Nat.le_of_ble_eq_true rfl) ?_
    exact z_xiretW (x := x12) hx hb hr hlocks hC hf dX6_leave_40
  · have hf := zif_t hf h14
    refine lv_iconst (v := (-1)) hx hb dX6_leave_25 (by decide) ?_
    refine W.widen (k := 2) (n := 12) (Nat.le_of_ble_eq_true rfl) (Nat.le_of_ble_eq_true rfl) ?_
    exact z_xiretW (x := (-1)) hx hb hr hlocks hC hf dX6_leave_26
def f_X6_pay (K : Nat → Nat) (z : Nat) (c : zS) (th : Nat) (p1 : Int32) (p2 : Int64) : Option ((Int64 × zS) ⊕ Nat) :=
  zt (f_X6_knownTrader K z c th p1) fun o2 => zn K o2 4 fun a4 => (if (lg_cmp p2 1) < 0 then some (.inr 2) else (if (lg_cmp p2 (zl c 93 a4 0)) ≤ 0 then zlet (zul c 93 a4 0 ((zl c 93 a4 0) - p2)) fun c5 => zlet (zul c5 135 th 0 ((zl c5 135 th 0) + p2)) fun c6 => some (.inl ((zl c6 93 a4 0), c6)) else some (.inr 2)))
set_option maxRecDepth 100000 in
set_option maxHeartbeats 4000000 in
theorem c_X6_pay {l : Launch} {D : va_G} {cy : Nat → ClassId} {base : Nat} {st : Nat → Nat} {K : Nat → Nat} {L : List Nat} {c r : zS} {o : Int64} {z : Nat} (th : Nat) (p1 : Int32) (p2 : Int64) {res : (Int64 × zS) ⊕ Nat}  (hk_th : K th = 6) (hst : l.stackTraces = false) (hf : f_X6_pay K z c th p1 p2 = some res) : vx_Met l yX6_pay wsX6_pay ({ frames := 7, cells := 2, slots := 12, locals := 122 }) (va_Pc [.ref th, .int p1, .long p2] (zGW zts0 zns0 D cy base st K L (c, r, o))) (va_Ql (fun (rr : Int64) (u : zS) => res = .inl (rr, u)) (fun u => zB D cy base K L (u, r, o)) (zA base)) (vx_X (fun (x : Nat) => res = .inr x) (fun E x t => E = zE x ∧ zB D cy base K L (c, r, o) t) (zA base)) 2 12 (zA base) := by
  refine vx_ofW (cc := cX6_pay) (maxL := 5) (ret := (some .long)) (by decide) rfl ?_
  intro p e s m args below meth cd s₁ B hml htab hv
  obtain ⟨rfl, hG⟩ := hv
  have hx := B.exec
  have hb := B.bytes
  have hr := B.returns
  have hts := atoms_spec (ws := wsX6_pay) B.pre
  have hown : s.vm.findClass RX6 = some m.cls := findClass_of_methodNamed B.named
  have hlocks := B.notSynchronized
  have hC := hG.enter
  have hK := hG.2.2.2.1
  have hi4 : ∀ w ∈ wsX40, w ∈ wsX6_pay := by decide +kernel
  have hi6 : ∀ w ∈ wsX60, w ∈ wsX6_pay := by decide +kernel
  have w0 := hts (.classLink RX6 38 "java/lang/IllegalArgumentException") (by decide +kernel)
  have w1 := hts (.initialized "java/lang/IllegalArgumentException") (by decide +kernel)
  have w2 := hts (.fieldLink RX6 246 "MarketSquare$Trader" "owed" "J") (by decide +kernel)
  have w3 := hts (.fieldLink RX6 252 "MarketSquare" "paid" "J") (by decide +kernel)
  have hl := lv_entry ([.ref th, .int p1, .long p2]) (n := 5) (Nat.le_of_ble_eq_true rfl)
  rw [lg_entry_eq]
  generalize (lg_sl ([.ref th, .int p1, .long p2]) ++ List.replicate (5 - (lg_sl ([.ref th, .int p1, .long p2])).length) Slot.unset).toArray = ls at hl ⊢
  have hl : lv_has ls 5 [(0, .ref th), (1, .int p1), (2, .long p2)] := hl
  unfold f_X6_pay at hf
  refine lv_aload_n hx hb dX6_pay_0 rfl (lv_at hl 0 rfl) ?_
  refine lv_iload_n hx hb dX6_pay_1 rfl (lv_at hl 1 rfl) ?_
  obtain ⟨q3, hc1, hfn, hfx⟩ := zt_inv hf
  refine z_xcq (z_rxV (As := [.int p1]) (rest := []) ⟨hx, hb, hml, hown, hts⟩ (c_X6_knownTrader (l := l) (D := D) (cy := cy) (base := base) (st := st) (K := K) (L := L) (c := c) (r := r) (o := o) (z := z) th p1 hk_th hst hc1) (cwV 1 hts gX6_pay_X6_knownTrader rfl rfl rfl (by decide +kernel) ⟨Nat.le_of_ble_eq_true rfl, Nat.le_of_ble_eq_true rfl⟩) hG hC (zC.recv (ci := 6) (fs := _) hK hC (by rw [hk_th]; decide) (by rw [hk_th]; exact zc_6 cy _ _) rfl) rfl hl.1 rfl (lv_room (Nat.le_of_ble_eq_true rfl)) dX6_pay_2 ⟨Nat.le_of_ble_eq_true rfl, Nat.le_of_ble_eq_true rfl⟩) hC (fun _ H locs q9 ce hq hC h1 h2 h3 => z_xout htab hlocks (hfx _ hq) hC h1 h2 h3 (Nat.le_of_ble_eq_true rfl) (Nat.le_of_ble_eq_true rfl)) (fun o2 H locs hq hC => ?_)
  have hf := hfn _ hq
  obtain ⟨a4, ea4, hk_a4, hf⟩ := zn_inv hf
  refine z_ref ea4 ?_
  refine lv_astore (lv' := [(4, .ref a4), (0, .ref th), (1, .int p1), (2, .long p2)]) hx hb dX6_pay_5 hl (by decide) rfl (fun ls hl => ?_)
  refine lv_lload_n hx hb dX6_pay_7 rfl (lv_at hl 3 rfl) ?_
  refine lv_lconst (v := 1) hx hb dX6_pay_8 (by decide) ?_
  refine W.lcmp hx hb dX6_pay_9 ?_
  refine lv_if_lt (tgt := 23) hx hb dX6_pay_10 (by decide) (fun h8 => ?_) (fun h8 => ?_)
  · have hf := zif_t hf h8
    exact z_throw (own := RX6) (cls := "java/lang/IllegalArgumentException") (text := "a sum is 1 to what is owed") (names := ["java/lang/RuntimeException", "java/lang/Exception"]) (ik := 38) (is := 250) (ic := 42) (k := 2) hx hb hst hown rfl rfl w0 w1 (hG.2.2.2.2.2.2.2.1 14 (RX6, 250, "a sum is 1 to what is owed") rfl) (z_hat (ws := wsX6_pay) hts (by decide +kernel) (by decide +kernel) (hG.2.2.2.2.2.2.2.2.2.1 _ (by decide +kernel)) hG.2.2.2.2.2.2.2.2.2.2.2.2) (by decide +kernel) hG hC hl.1 hml dX6_pay_23 dX6_pay_26 dX6_pay_27 dX6_pay_29 dX6_pay_32 htab (Nat.le_of_ble_eq_true rfl) (Nat.le_of_ble_eq_true rfl) (Nat.le_of_ble_eq_true rfl) (Nat.le_of_ble_eq_true rfl) hlocks (Nat.le_of_ble_eq_true rfl) (Nat.le_of_ble_eq_true rfl) hf
  · have hf := zif_f hf h8
    refine lv_lload_n hx hb dX6_pay_13 rfl (lv_at hl 3 rfl) ?_
    refine lv_aload hx hb dX6_pay_14 (lv_at hl 0 rfl) ?_
    refine zg_4_13 hx hb hts hi4 hown hK hC hk_a4 w2 dX6_pay_16 ?_
    refine W.lcmp hx hb dX6_pay_19 ?_
    refine lv_if_le (tgt := 33) hx hb dX6_pay_20 (by decide) (fun h7 => ?_) (fun h7 => ?_)
    · have hf := zif_t hf h7
      refine lv_aload hx hb dX6_pay_33 (lv_at hl 0 rfl) ?_
      refine lv_dup hx hb dX6_pay_35 rfl ?_
      refine zg_4_13 hx hb hts hi4 hown hK hC hk_a4 w2 dX6_pay_36 ?_
      refine lv_lload_n hx hb dX6_pay_39 rfl (lv_at hl 3 rfl) ?_
      refine lv_lsub hx hb dX6_pay_40 ?_
      obtain ⟨c5, ec5, hf⟩ := zlet_inv hf
      refine zp_4_13 hx hb hts hi4 hown hK hC hk_a4 w2 ec5 dX6_pay_41 (fun H locs hC => ?_)
      refine lv_aload_n hx hb dX6_pay_44 rfl (lv_at hl 1 rfl) ?_
      refine lv_dup hx hb dX6_pay_45 rfl ?_
      refine zg_6_15 hx hb hts hi6 hown hK hC hk_th w3 dX6_pay_46 ?_
      refine lv_lload_n hx hb dX6_pay_49 rfl (lv_at hl 3 rfl) ?_
      refine lv_ladd hx hb dX6_pay_50 ?_
      obtain ⟨c6, ec6, hf⟩ := zlet_inv hf
      refine zp_6_15 hx hb hts hi6 hown hK hC hk_th w3 ec6 dX6_pay_51 (fun H locs hC => ?_)
      refine lv_aload hx hb dX6_pay_54 (lv_at hl 0 rfl) ?_
      refine zg_4_13 hx hb hts hi4 hown hK hC hk_a4 w2 dX6_pay_56 ?_
      refine W.widen (k := 2) (n := 12) (Nat.le_of_ble_eq_true rfl) (Nat.le_of_ble_eq_true rfl) ?_
      exact z_xlretW (x := (zl c6 93 a4 0)) hx hb hr hlocks hC hf dX6_pay_59
    · have hf := zif_f hf h7
      exact z_throw (own := RX6) (cls := "java/lang/IllegalArgumentException") (text := "a sum is 1 to what is owed") (names := ["java/lang/RuntimeException", "java/lang/Exception"]) (ik := 38) (is := 250) (ic := 42) (k := 2) hx hb hst hown rfl rfl w0 w1 (hG.2.2.2.2.2.2.2.1 14 (RX6, 250, "a sum is 1 to what is owed") rfl) (z_hat (ws := wsX6_pay) hts (by decide +kernel) (by decide +kernel) (hG.2.2.2.2.2.2.2.2.2.1 _ (by decide +kernel)) hG.2.2.2.2.2.2.2.2.2.2.2.2) (by decide +kernel) hG hC hl.1 hml dX6_pay_23 dX6_pay_26 dX6_pay_27 dX6_pay_29 dX6_pay_32 htab (Nat.le_of_ble_eq_true rfl) (Nat.le_of_ble_eq_true rfl) (Nat.le_of_ble_eq_true rfl) (Nat.le_of_ble_eq_true rfl) hlocks (Nat.le_of_ble_eq_true rfl) (Nat.le_of_ble_eq_true rfl) hf
def f_X6_look (K : Nat → Nat) (z : Nat) (c : zS) (th : Nat) (p1 : Int32) (p2 : Int32) : Option (Int32 ⊕ Nat) :=
  zt (f_X6_knownTrader K z c th p1) fun o2 => zn K o2 4 fun a4 => (if p2 = 0 then some (.inl (zi c 86 a4 0)) else (if p2 = 1 then zn K (zr c 81 a4 0) 3 fun a7 => some (.inl (zi c 60 a7 0)) else (if p2 = 2 then some (.inl (zi c 82 a4 0)) else (if p2 = 3 then some (.inl (zi c 87 a4 0)) else (if p2 = 4 then zn K (zr c 83 a4 0) 1 fun a11 => zb (f_X1_code K z c a11) fun x13 => some (.inl x13) else (if p2 = 5 then zn K (zr c 85 a4 0) 2 fun a15 => zn K (zr c 40 a15 0) 1 fun a16 => zb (f_X1_code K z c a16) fun x18 => some (.inl x18) else (if p2 = 6 then zn K (zr c 85 a4 0) 2 fun a20 => zb (f_X6_oneIf K z c (zi c 42 a20 0)) fun x22 => some (.inl x22) else (if p2 = 7 then zn K (zr c 85 a4 0) 2 fun a24 => zb (f_X6_oneIf K z c (zi c 43 a24 0)) fun x26 => some (.inl x26) else (if p2 = 8 then zn K (zr c 85 a4 0) 2 fun a28 => zb (f_X6_oneIf K z c (zi c 44 a28 0)) fun x30 => some (.inl x30) else (if p2 = 9 then zn K (zr c 85 a4 0) 2 fun a32 => zb (f_X6_oneIf K z c (zi c 45 a32 0)) fun x34 => some (.inl x34) else (if p2 = 10 then zn K (zr c 85 a4 0) 2 fun a36 => zb (f_X6_oneIf K z c (zi c 46 a36 0)) fun x38 => some (.inl x38) else (if p2 = 11 then zb (f_J6_bitCount_0f7a4 K z c (zi c 90 a4 0)) fun x41 => some (.inl x41) else (if p2 = 12 then some (.inl (zi c 92 a4 0)) else (if p2 = 13 then zb (f_J6_bitCount_0f7a4 K z c (zi c 91 a4 0)) fun x45 => some (.inl x45) else (if p2 = 14 then zn K (zr c 84 a4 0) 5 fun a47 => some (.inl (zi c 102 a47 0)) else (if p2 = 15 then zn K (zr c 84 a4 0) 5 fun a49 => zb (f_X6_oneIf K z c (zi c 103 a49 0)) fun x51 => some (.inl x51) else (if p2 = 16 then zb (f_X6_oneIf K z c (zi c 89 a4 0)) fun x54 => some (.inl x54) else some (.inr 2))))))))))))))))))
set_option maxRecDepth 100000 in
set_option maxHeartbeats 4000000 in
theorem c_X6_look {l : Launch} {D : va_G} {cy : Nat → ClassId} {base : Nat} {st : Nat → Nat} {K : Nat → Nat} {L : List Nat} {c r : zS} {o : Int64} {z : Nat} (th : Nat) (p1 : Int32) (p2 : Int32) {res : Int32 ⊕ Nat}  (hk_th : K th = 6) (hst : l.stackTraces = false) (hf : f_X6_look K z c th p1 p2 = some res) : vx_Met l yX6_look wsX6_look ({ frames := 7, cells := 2, slots := 12, locals := 122 }) (va_Pc [.ref th, .int p1, .int p2] (zGW zts0 zns0 D cy base st K L (c, r, o))) (va_Qi (fun (rr : Int32) (u : Unit) => res = .inl rr) (fun u => zB D cy base K L (c, r, o)) (zA base)) (vx_X (fun (x : Nat) => res = .inr x) (fun E x t => E = zE x ∧ zB D cy base K L (c, r, o) t) (zA base)) 2 12 (zA base) := by
  refine vx_ofW (cc := cX6_look) (maxL := 4) (ret := (some .int)) (by decide) rfl ?_
  intro p e s m args below meth cd s₁ B hml htab hv
  obtain ⟨rfl, hG⟩ := hv
  have hx := B.exec
  have hb := B.bytes
  have hr := B.returns
  have hts := atoms_spec (ws := wsX6_look) B.pre
  have hown : s.vm.findClass RX6 = some m.cls := findClass_of_methodNamed B.named
  have hlocks := B.notSynchronized
  have hC := hG.enter
  have hK := hG.2.2.2.1
  have hi2 : ∀ w ∈ wsX20, w ∈ wsX6_look := by decide +kernel
  have hi3 : ∀ w ∈ wsX30, w ∈ wsX6_look := by decide +kernel
  have hi4 : ∀ w ∈ wsX40, w ∈ wsX6_look := by decide +kernel
  have hi5 : ∀ w ∈ wsX50, w ∈ wsX6_look := by decide +kernel
  have w0 := hts (.fieldLink RX6 115 "MarketSquare$Trader" "kind" "I") (by decide +kernel)
  have w1 := hts (.fieldLink RX6 255 "MarketSquare$Trader" "trade" "LMarketSquare$Trade;") (by decide +kernel)
  have w2 := hts (.fieldLink RX6 259 "MarketSquare$Trade" "number" "I") (by decide +kernel)
  have w3 := hts (.fieldLink RX6 260 "MarketSquare$Trader" "front" "I") (by decide +kernel)
  have w4 := hts (.fieldLink RX6 263 "MarketSquare$Trader" "rank" "I") (by decide +kernel)
  have w5 := hts (.fieldLink RX6 120 "MarketSquare$Trader" "pitch" "LMarketSquare$Spot;") (by decide +kernel)
  have w6 := hts (.fieldLink RX6 168 "MarketSquare$Trader" "today" "LMarketSquare$Today;") (by decide +kernel)
  have w7 := hts (.fieldLink RX6 224 "MarketSquare$Today" "stall" "LMarketSquare$Spot;") (by decide +kernel)
  have w8 := hts (.fieldLink RX6 172 "MarketSquare$Today" "there" "Z") (by decide +kernel)
  have w9 := hts (.fieldLink RX6 177 "MarketSquare$Today" "word" "Z") (by decide +kernel)
  have w10 := hts (.fieldLink RX6 273 "MarketSquare$Today" "slighted" "Z") (by decide +kernel)
  have w11 := hts (.fieldLink RX6 217 "MarketSquare$Today" "passed" "Z") (by decide +kernel)
  have w12 := hts (.fieldLink RX6 240 "MarketSquare$Today" "left" "Z") (by decide +kernel)
  have w13 := hts (.fieldLink RX6 276 "MarketSquare$Trader" "thereDays" "I") (by decide +kernel)
  have w14 := hts (.fieldLink RX6 285 "MarketSquare$Trader" "last" "I") (by decide +kernel)
  have w15 := hts (.fieldLink RX6 288 "MarketSquare$Trader" "awayDays" "I") (by decide +kernel)
  have w16 := hts (.fieldLink RX6 136 "MarketSquare$Trader" "wish" "LMarketSquare$Wish;") (by decide +kernel)
  have w17 := hts (.fieldLink RX6 291 "MarketSquare$Wish" "length" "I") (by decide +kernel)
  have w18 := hts (.fieldLink RX6 294 "MarketSquare$Wish" "any" "Z") (by decide +kernel)
  have w19 := hts (.fieldLink RX6 150 "MarketSquare$Trader" "wants" "Z") (by decide +kernel)
  have w20 := hts (.classLink RX6 38 "java/lang/IllegalArgumentException") (by decide +kernel)
  have w21 := hts (.initialized "java/lang/IllegalArgumentException") (by decide +kernel)
  have hl := lv_entry ([.ref th, .int p1, .int p2]) (n := 4) (Nat.le_of_ble_eq_true rfl)
  rw [lg_entry_eq]
  generalize (lg_sl ([.ref th, .int p1, .int p2]) ++ List.replicate (4 - (lg_sl ([.ref th, .int p1, .int p2])).length) Slot.unset).toArray = ls at hl ⊢
  have hl : lv_has ls 4 [(0, .ref th), (1, .int p1), (2, .int p2)] := hl
  unfold f_X6_look at hf
  refine lv_aload_n hx hb dX6_look_0 rfl (lv_at hl 0 rfl) ?_
  refine lv_iload_n hx hb dX6_look_1 rfl (lv_at hl 1 rfl) ?_
  obtain ⟨q3, hc1, hfn, hfx⟩ := zt_inv hf
  refine z_xcq (z_rxV (As := [.int p1]) (rest := []) ⟨hx, hb, hml, hown, hts⟩ (c_X6_knownTrader (l := l) (D := D) (cy := cy) (base := base) (st := st) (K := K) (L := L) (c := c) (r := r) (o := o) (z := z) th p1 hk_th hst hc1) (cwV 1 hts gX6_look_X6_knownTrader rfl rfl rfl (by decide +kernel) ⟨Nat.le_of_ble_eq_true rfl, Nat.le_of_ble_eq_true rfl⟩) hG hC (zC.recv (ci := 6) (fs := _) hK hC (by rw [hk_th]; decide) (by rw [hk_th]; exact zc_6 cy _ _) rfl) rfl hl.1 rfl (lv_room (Nat.le_of_ble_eq_true rfl)) dX6_look_2 ⟨Nat.le_of_ble_eq_true rfl, Nat.le_of_ble_eq_true rfl⟩) hC (fun _ H locs q9 ce hq hC h1 h2 h3 => z_xout htab hlocks (hfx _ hq) hC h1 h2 h3 (Nat.le_of_ble_eq_true rfl) (Nat.le_of_ble_eq_true rfl)) (fun o2 H locs hq hC => ?_)
  have hf := hfn _ hq
  obtain ⟨a4, ea4, hk_a4, hf⟩ := zn_inv hf
  refine z_ref ea4 ?_
  refine lv_astore_n (lv' := [(3, .ref a4), (0, .ref th), (1, .int p1), (2, .int p2)]) hx hb dX6_look_5 rfl hl (by decide) rfl (fun ls hl => ?_)
  refine lv_iload_n hx hb dX6_look_6 rfl (lv_at hl 3 rfl) ?_
  by_cases h5 : p2 = 0
  · have hf := zif_t hf h5
    refine z_name h5.symm ?_
    refine lv_tableIn (off := 81) (tgt := 88) hx hb dX6_look_7 (by decide) (by decide) (by decide) (by decide) ?_
    refine lv_aload_n hx hb dX6_look_88 rfl (lv_at hl 0 rfl) ?_
    refine zg_4_6 hx hb hts hi4 hown hK hC hk_a4 w0 dX6_look_89 ?_
    refine W.widen (k := 2) (n := 12) (Nat.le_of_ble_eq_true rfl) (Nat.le_of_ble_eq_true rfl) ?_
    exact z_xiret (x := (zi c 86 a4 0)) hx hb hr hlocks hC hf dX6_look_92
  have hf := zif_f hf h5
  by_cases h6 : p2 = 1
  · have hf := zif_t hf h6
    refine z_name h6.symm ?_
    refine lv_tableIn (off := 86) (tgt := 93) hx hb dX6_look_7 (by decide) (by decide) (by decide) (by decide) ?_
    refine lv_aload_n hx hb dX6_look_93 rfl (lv_at hl 0 rfl) ?_
    refine zg_4_1 hx hb hts hi4 hown hK hC hk_a4 w1 dX6_look_94 ?_
    obtain ⟨a7, ea7, hk_a7, hf⟩ := zn_inv hf
    refine z_ref ea7 ?_
    refine zg_3_0 hx hb hts hi3 hown hK hC hk_a7 w2 dX6_look_97 ?_
    refine W.widen (k := 2) (n := 12) (Nat.le_of_ble_eq_true rfl) (Nat.le_of_ble_eq_true rfl) ?_
    exact z_xiret (x := (zi c 60 a7 0)) hx hb hr hlocks hC hf dX6_look_100
  have hf := zif_f hf h6
  by_cases h8 : p2 = 2
  · have hf := zif_t hf h8
    refine z_name h8.symm ?_
    refine lv_tableIn (off := 94) (tgt := 101) hx hb dX6_look_7 (by decide) (by decide) (by decide) (by decide) ?_
    refine lv_aload_n hx hb dX6_look_101 rfl (lv_at hl 0 rfl) ?_
    refine zg_4_2 hx hb hts hi4 hown hK hC hk_a4 w3 dX6_look_102 ?_
    refine W.widen (k := 2) (n := 12) (Nat.le_of_ble_eq_true rfl) (Nat.le_of_ble_eq_true rfl) ?_
    exact z_xiret (x := (zi c 82 a4 0)) hx hb hr hlocks hC hf dX6_look_105
  have hf := zif_f hf h8
  by_cases h9 : p2 = 3
  · have hf := zif_t hf h9
    refine z_name h9.symm ?_
    refine lv_tableIn (off := 99) (tgt := 106) hx hb dX6_look_7 (by decide) (by decide) (by decide) (by decide) ?_
    refine lv_aload_n hx hb dX6_look_106 rfl (lv_at hl 0 rfl) ?_
    refine zg_4_7 hx hb hts hi4 hown hK hC hk_a4 w4 dX6_look_107 ?_
    refine W.widen (k := 2) (n := 12) (Nat.le_of_ble_eq_true rfl) (Nat.le_of_ble_eq_true rfl) ?_
    exact z_xiret (x := (zi c 87 a4 0)) hx hb hr hlocks hC hf dX6_look_110
  have hf := zif_f hf h9
  by_cases h10 : p2 = 4
  · have hf := zif_t hf h10
    refine z_name h10.symm ?_
    refine lv_tableIn (off := 104) (tgt := 111) hx hb dX6_look_7 (by decide) (by decide) (by decide) (by decide) ?_
    refine lv_aload_n hx hb dX6_look_111 rfl (lv_at hl 0 rfl) ?_
    refine zg_4_3 hx hb hts hi4 hown hK hC hk_a4 w5 dX6_look_112 ?_
    obtain ⟨a11, ea11, hk_a11, hf⟩ := zn_inv hf
    refine z_ref ea11 ?_
    obtain ⟨x13, hc12, hf⟩ := zb_inv hf
    refine z_ci (z_rV (As := []) (rest := []) ⟨hx, hb, hml, hown, hts⟩ (c_X1_code (l := l) (D := D) (cy := cy) (base := base) (st := st) (K := K) (L := L) (c := c) (r := r) (o := o) (z := z) a11 hk_a11 hc12) (cwV 0 hts gX6_look_X1_code rfl rfl rfl (by decide +kernel) ⟨Nat.le_of_ble_eq_true rfl, Nat.le_of_ble_eq_true rfl⟩) hG hC (zC.recv (ci := 1) (fs := _) hK hC (by rw [hk_a11]; decide) (by rw [hk_a11]; exact zc_1 cy _ _) rfl) rfl hl.1 rfl (lv_room (Nat.le_of_ble_eq_true rfl)) dX6_look_115 ⟨Nat.le_of_ble_eq_true rfl, Nat.le_of_ble_eq_true rfl⟩) hC (fun H locs hC => ?_)
    refine W.widen (k := 2) (n := 12) (Nat.le_of_ble_eq_true rfl) (Nat.le_of_ble_eq_true rfl) ?_
    exact z_xiret (x := x13) hx hb hr hlocks hC hf dX6_look_118
  have hf := zif_f hf h10
  by_cases h14 : p2 = 5
  · have hf := zif_t hf h14
    refine z_name h14.symm ?_
    refine lv_tableIn (off := 112) (tgt := 119) hx hb dX6_look_7 (by decide) (by decide) (by decide) (by decide) ?_
    refine lv_aload_n hx hb dX6_look_119 rfl (lv_at hl 0 rfl) ?_
    refine zg_4_5 hx hb hts hi4 hown hK hC hk_a4 w6 dX6_look_120 ?_
    obtain ⟨a15, ea15, hk_a15, hf⟩ := zn_inv hf
    refine z_ref ea15 ?_
    refine zg_2_0 hx hb hts hi2 hown hK hC hk_a15 w7 dX6_look_123 ?_
    obtain ⟨a16, ea16, hk_a16, hf⟩ := zn_inv hf
    refine z_ref ea16 ?_
    obtain ⟨x18, hc17, hf⟩ := zb_inv hf
    refine z_ci (z_rV (As := []) (rest := []) ⟨hx, hb, hml, hown, hts⟩ (c_X1_code (l := l) (D := D) (cy := cy) (base := base) (st := st) (K := K) (L := L) (c := c) (r := r) (o := o) (z := z) a16 hk_a16 hc17) (cwV 0 hts gX6_look_X1_code rfl rfl rfl (by decide +kernel) ⟨Nat.le_of_ble_eq_true rfl, Nat.le_of_ble_eq_true rfl⟩) hG hC (zC.recv (ci := 1) (fs := _) hK hC (by rw [hk_a16]; decide) (by rw [hk_a16]; exact zc_1 cy _ _) rfl) rfl hl.1 rfl (lv_room (Nat.le_of_ble_eq_true rfl)) dX6_look_126 ⟨Nat.le_of_ble_eq_true rfl, Nat.le_of_ble_eq_true rfl⟩) hC (fun H locs hC => ?_)
    refine W.widen (k := 2) (n := 12) (Nat.le_of_ble_eq_true rfl) (Nat.le_of_ble_eq_true rfl) ?_
    exact z_xiret (x := x18) hx hb hr hlocks hC hf dX6_look_129
  have hf := zif_f hf h14
  by_cases h19 : p2 = 6
  · have hf := zif_t hf h19
    refine z_name h19.symm ?_
    refine lv_tableIn (off := 123) (tgt := 130) hx hb dX6_look_7 (by decide) (by decide) (by decide) (by decide) ?_
    refine lv_aload_n hx hb dX6_look_130 rfl (lv_at hl 0 rfl) ?_
    refine zg_4_5 hx hb hts hi4 hown hK hC hk_a4 w6 dX6_look_131 ?_
    obtain ⟨a20, ea20, hk_a20, hf⟩ := zn_inv hf
    refine z_ref ea20 ?_
    refine zg_2_2 hx hb hts hi2 hown hK hC hk_a20 w8 dX6_look_134 ?_
    obtain ⟨x22, hc21, hf⟩ := zb_inv hf
    refine z_ci (z_rS (b := 0) (As := [.int (zi c 42 a20 0)]) (rest := []) ⟨hx, hb, hml, hown, hts⟩ (c_X6_oneIf (l := l) (D := D) (cy := cy) (base := base) (st := st) (K := K) (L := L) (c := c) (r := r) (o := o) (z := z) (zi c 42 a20 0)  hc21) (va_cwS 1 hts gX6_look_X6_oneIf rfl rfl rfl (by decide +kernel) ⟨Nat.le_of_ble_eq_true rfl, Nat.le_of_ble_eq_true rfl⟩) hG hC rfl hl.1 rfl (lv_room (Nat.le_of_ble_eq_true rfl)) dX6_look_137 ⟨Nat.le_of_ble_eq_true rfl, Nat.le_of_ble_eq_true rfl⟩) hC (fun H locs hC => ?_)
    refine W.widen (k := 2) (n := 12) (Nat.le_of_ble_eq_true rfl) (Nat.le_of_ble_eq_true rfl) ?_
    exact z_xiret (x := x22) hx hb hr hlocks hC hf dX6_look_140
  have hf := zif_f hf h19
  by_cases h23 : p2 = 7
  · have hf := zif_t hf h23
    refine z_name h23.symm ?_
    refine lv_tableIn (off := 134) (tgt := 141) hx hb dX6_look_7 (by decide) (by decide) (by decide) (by decide) ?_
    refine lv_aload_n hx hb dX6_look_141 rfl (lv_at hl 0 rfl) ?_
    refine zg_4_5 hx hb hts hi4 hown hK hC hk_a4 w6 dX6_look_142 ?_
    obtain ⟨a24, ea24, hk_a24, hf⟩ := zn_inv hf
    refine z_ref ea24 ?_
    refine zg_2_3 hx hb hts hi2 hown hK hC hk_a24 w9 dX6_look_145 ?_
    obtain ⟨x26, hc25, hf⟩ := zb_inv hf
    refine z_ci (z_rS (b := 0) (As := [.int (zi c 43 a24 0)]) (rest := []) ⟨hx, hb, hml, hown, hts⟩ (c_X6_oneIf (l := l) (D := D) (cy := cy) (base := base) (st := st) (K := K) (L := L) (c := c) (r := r) (o := o) (z := z) (zi c 43 a24 0)  hc25) (va_cwS 1 hts gX6_look_X6_oneIf rfl rfl rfl (by decide +kernel) ⟨Nat.le_of_ble_eq_true rfl, Nat.le_of_ble_eq_true rfl⟩) hG hC rfl hl.1 rfl (lv_room (Nat.le_of_ble_eq_true rfl)) dX6_look_148 ⟨Nat.le_of_ble_eq_true rfl, Nat.le_of_ble_eq_true rfl⟩) hC (fun H locs hC => ?_)
    refine W.widen (k := 2) (n := 12) (Nat.le_of_ble_eq_true rfl) (Nat.le_of_ble_eq_true rfl) ?_
    exact z_xiret (x := x26) hx hb hr hlocks hC hf dX6_look_151
  have hf := zif_f hf h23
  by_cases h27 : p2 = 8
  · have hf := zif_t hf h27
    refine z_name h27.symm ?_
    refine lv_tableIn (off := 145) (tgt := 152) hx hb dX6_look_7 (by decide) (by decide) (by decide) (by decide) ?_
    refine lv_aload_n hx hb dX6_look_152 rfl (lv_at hl 0 rfl) ?_
    refine zg_4_5 hx hb hts hi4 hown hK hC hk_a4 w6 dX6_look_153 ?_
    obtain ⟨a28, ea28, hk_a28, hf⟩ := zn_inv hf
    refine z_ref ea28 ?_
    refine zg_2_4 hx hb hts hi2 hown hK hC hk_a28 w10 dX6_look_156 ?_
    obtain ⟨x30, hc29, hf⟩ := zb_inv hf
    refine z_ci (z_rS (b := 0) (As := [.int (zi c 44 a28 0)]) (rest := []) ⟨hx, hb, hml, hown, hts⟩ (c_X6_oneIf (l := l) (D := D) (cy := cy) (base := base) (st := st) (K := K) (L := L) (c := c) (r := r) (o := o) (z := z) (zi c 44 a28 0)  hc29) (va_cwS 1 hts gX6_look_X6_oneIf rfl rfl rfl (by decide +kernel) ⟨Nat.le_of_ble_eq_true rfl, Nat.le_of_ble_eq_true rfl⟩) hG hC rfl hl.1 rfl (lv_room (Nat.le_of_ble_eq_true rfl)) dX6_look_159 ⟨Nat.le_of_ble_eq_true rfl, Nat.le_of_ble_eq_true rfl⟩) hC (fun H locs hC => ?_)
    refine W.widen (k := 2) (n := 12) (Nat.le_of_ble_eq_true rfl) (Nat.le_of_ble_eq_true rfl) ?_
    exact z_xiret (x := x30) hx hb hr hlocks hC hf dX6_look_162
  have hf := zif_f hf h27
  by_cases h31 : p2 = 9
  · have hf := zif_t hf h31
    refine z_name h31.symm ?_
    refine lv_tableIn (off := 156) (tgt := 163) hx hb dX6_look_7 (by decide) (by decide) (by decide) (by decide) ?_
    refine lv_aload_n hx hb dX6_look_163 rfl (lv_at hl 0 rfl) ?_
    refine zg_4_5 hx hb hts hi4 hown hK hC hk_a4 w6 dX6_look_164 ?_
    obtain ⟨a32, ea32, hk_a32, hf⟩ := zn_inv hf
    refine z_ref ea32 ?_
    refine zg_2_5 hx hb hts hi2 hown hK hC hk_a32 w11 dX6_look_167 ?_
    obtain ⟨x34, hc33, hf⟩ := zb_inv hf
    refine z_ci (z_rS (b := 0) (As := [.int (zi c 45 a32 0)]) (rest := []) ⟨hx, hb, hml, hown, hts⟩ (c_X6_oneIf (l := l) (D := D) (cy := cy) (base := base) (st := st) (K := K) (L := L) (c := c) (r := r) (o := o) (z := z) (zi c 45 a32 0)  hc33) (va_cwS 1 hts gX6_look_X6_oneIf rfl rfl rfl (by decide +kernel) ⟨Nat.le_of_ble_eq_true rfl, Nat.le_of_ble_eq_true rfl⟩) hG hC rfl hl.1 rfl (lv_room (Nat.le_of_ble_eq_true rfl)) dX6_look_170 ⟨Nat.le_of_ble_eq_true rfl, Nat.le_of_ble_eq_true rfl⟩) hC (fun H locs hC => ?_)
    refine W.widen (k := 2) (n := 12) (Nat.le_of_ble_eq_true rfl) (Nat.le_of_ble_eq_true rfl) ?_
    exact z_xiret (x := x34) hx hb hr hlocks hC hf dX6_look_173
  have hf := zif_f hf h31
  by_cases h35 : p2 = 10
  · have hf := zif_t hf h35
    refine z_name h35.symm ?_
    refine lv_tableIn (off := 167) (tgt := 174) hx hb dX6_look_7 (by decide) (by decide) (by decide) (by decide) ?_
    refine lv_aload_n hx hb dX6_look_174 rfl (lv_at hl 0 rfl) ?_
    refine zg_4_5 hx hb hts hi4 hown hK hC hk_a4 w6 dX6_look_175 ?_
    obtain ⟨a36, ea36, hk_a36, hf⟩ := zn_inv hf
    refine z_ref ea36 ?_
    refine zg_2_6 hx hb hts hi2 hown hK hC hk_a36 w12 dX6_look_178 ?_
    obtain ⟨x38, hc37, hf⟩ := zb_inv hf
    refine z_ci (z_rS (b := 0) (As := [.int (zi c 46 a36 0)]) (rest := []) ⟨hx, hb, hml, hown, hts⟩ (c_X6_oneIf (l := l) (D := D) (cy := cy) (base := base) (st := st) (K := K) (L := L) (c := c) (r := r) (o := o) (z := z) (zi c 46 a36 0)  hc37) (va_cwS 1 hts gX6_look_X6_oneIf rfl rfl rfl (by decide +kernel) ⟨Nat.le_of_ble_eq_true rfl, Nat.le_of_ble_eq_true rfl⟩) hG hC rfl hl.1 rfl (lv_room (Nat.le_of_ble_eq_true rfl)) dX6_look_181 ⟨Nat.le_of_ble_eq_true rfl, Nat.le_of_ble_eq_true rfl⟩) hC (fun H locs hC => ?_)
    refine W.widen (k := 2) (n := 12) (Nat.le_of_ble_eq_true rfl) (Nat.le_of_ble_eq_true rfl) ?_
    exact z_xiret (x := x38) hx hb hr hlocks hC hf dX6_look_184
  have hf := zif_f hf h35
  by_cases h39 : p2 = 11
  · have hf := zif_t hf h39
    refine z_name h39.symm ?_
    refine lv_tableIn (off := 178) (tgt := 185) hx hb dX6_look_7 (by decide) (by decide) (by decide) (by decide) ?_
    refine lv_aload_n hx hb dX6_look_185 rfl (lv_at hl 0 rfl) ?_
    refine zg_4_10 hx hb hts hi4 hown hK hC hk_a4 w13 dX6_look_186 ?_
    obtain ⟨x41, hc40, hf⟩ := zb_inv hf
    refine z_ci (z_rS (b := 0) (As := [.int (zi c 90 a4 0)]) (rest := []) ⟨hx, hb, hml, hown, hts⟩ (c_J6_bitCount_0f7a4 (l := l) (D := D) (cy := cy) (base := base) (st := st) (K := K) (L := L) (c := c) (r := r) (o := o) (z := z) (zi c 90 a4 0)  hc40) (va_cwS 1 hts gX6_look_J6_bitCount_0f7a4 rfl rfl rfl (by decide +kernel) ⟨Nat.le_of_ble_eq_true rfl, Nat.le_of_ble_eq_true rfl⟩) hG hC rfl hl.1 rfl (lv_room (Nat.le_of_ble_eq_true rfl)) dX6_look_189 ⟨Nat.le_of_ble_eq_true rfl, Nat.le_of_ble_eq_true rfl⟩) hC (fun H locs hC => ?_)
    refine W.widen (k := 2) (n := 12) (Nat.le_of_ble_eq_true rfl) (Nat.le_of_ble_eq_true rfl) ?_
    exact z_xiret (x := x41) hx hb hr hlocks hC hf dX6_look_192
  have hf := zif_f hf h39
  by_cases h42 : p2 = 12
  · have hf := zif_t hf h42
    refine z_name h42.symm ?_
    refine lv_tableIn (off := 186) (tgt := 193) hx hb dX6_look_7 (by decide) (by decide) (by decide) (by decide) ?_
    refine lv_aload_n hx hb dX6_look_193 rfl (lv_at hl 0 rfl) ?_
    refine zg_4_12 hx hb hts hi4 hown hK hC hk_a4 w14 dX6_look_194 ?_
    refine W.widen (k := 2) (n := 12) (Nat.le_of_ble_eq_true rfl) (Nat.le_of_ble_eq_true rfl) ?_
    exact z_xiret (x := (zi c 92 a4 0)) hx hb hr hlocks hC hf dX6_look_197
  have hf := zif_f hf h42
  by_cases h43 : p2 = 13
  · have hf := zif_t hf h43
    refine z_name h43.symm ?_
    refine lv_tableIn (off := 191) (tgt := 198) hx hb dX6_look_7 (by decide) (by decide) (by decide) (by decide) ?_
    refine lv_aload_n hx hb dX6_look_198 rfl (lv_at hl 0 rfl) ?_
    refine zg_4_11 hx hb hts hi4 hown hK hC hk_a4 w15 dX6_look_199 ?_
    obtain ⟨x45, hc44, hf⟩ := zb_inv hf
    refine z_ci (z_rS (b := 0) (As := [.int (zi c 91 a4 0)]) (rest := []) ⟨hx, hb, hml, hown, hts⟩ (c_J6_bitCount_0f7a4 (l := l) (D := D) (cy := cy) (base := base) (st := st) (K := K) (L := L) (c := c) (r := r) (o := o) (z := z) (zi c 91 a4 0)  hc44) (va_cwS 1 hts gX6_look_J6_bitCount_0f7a4 rfl rfl rfl (by decide +kernel) ⟨Nat.le_of_ble_eq_true rfl, Nat.le_of_ble_eq_true rfl⟩) hG hC rfl hl.1 rfl (lv_room (Nat.le_of_ble_eq_true rfl)) dX6_look_202 ⟨Nat.le_of_ble_eq_true rfl, Nat.le_of_ble_eq_true rfl⟩) hC (fun H locs hC => ?_)
    refine W.widen (k := 2) (n := 12) (Nat.le_of_ble_eq_true rfl) (Nat.le_of_ble_eq_true rfl) ?_
    exact z_xiret (x := x45) hx hb hr hlocks hC hf dX6_look_205
  have hf := zif_f hf h43
  by_cases h46 : p2 = 14
  · have hf := zif_t hf h46
    refine z_name h46.symm ?_
    refine lv_tableIn (off := 199) (tgt := 206) hx hb dX6_look_7 (by decide) (by decide) (by decide) (by decide) ?_
    refine lv_aload_n hx hb dX6_look_206 rfl (lv_at hl 0 rfl) ?_
    refine zg_4_4 hx hb hts hi4 hown hK hC hk_a4 w16 dX6_look_207 ?_
    obtain ⟨a47, ea47, hk_a47, hf⟩ := zn_inv hf
    refine z_ref ea47 ?_
    refine zg_5_2 hx hb hts hi5 hown hK hC hk_a47 w17 dX6_look_210 ?_
    refine W.widen (k := 2) (n := 12) (Nat.le_of_ble_eq_true rfl) (Nat.le_of_ble_eq_true rfl) ?_
    exact z_xiret (x := (zi c 102 a47 0)) hx hb hr hlocks hC hf dX6_look_213
  have hf := zif_f hf h46
  by_cases h48 : p2 = 15
  · have hf := zif_t hf h48
    refine z_name h48.symm ?_
    refine lv_tableIn (off := 207) (tgt := 214) hx hb dX6_look_7 (by decide) (by decide) (by decide) (by decide) ?_
    refine lv_aload_n hx hb dX6_look_214 rfl (lv_at hl 0 rfl) ?_
    refine zg_4_4 hx hb hts hi4 hown hK hC hk_a4 w16 dX6_look_215 ?_
    obtain ⟨a49, ea49, hk_a49, hf⟩ := zn_inv hf
    refine z_ref ea49 ?_
    refine zg_5_3 hx hb hts hi5 hown hK hC hk_a49 w18 dX6_look_218 ?_
    obtain ⟨x51, hc50, hf⟩ := zb_inv hf
    refine z_ci (z_rS (b := 0) (As := [.int (zi c 103 a49 0)]) (rest := []) ⟨hx, hb, hml, hown, hts⟩ (c_X6_oneIf (l := l) (D := D) (cy := cy) (base := base) (st := st) (K := K) (L := L) (c := c) (r := r) (o := o) (z := z) (zi c 103 a49 0)  hc50) (va_cwS 1 hts gX6_look_X6_oneIf rfl rfl rfl (by decide +kernel) ⟨Nat.le_of_ble_eq_true rfl, Nat.le_of_ble_eq_true rfl⟩) hG hC rfl hl.1 rfl (lv_room (Nat.le_of_ble_eq_true rfl)) dX6_look_221 ⟨Nat.le_of_ble_eq_true rfl, Nat.le_of_ble_eq_true rfl⟩) hC (fun H locs hC => ?_)
    refine W.widen (k := 2) (n := 12) (Nat.le_of_ble_eq_true rfl) (Nat.le_of_ble_eq_true rfl) ?_
    exact z_xiret (x := x51) hx hb hr hlocks hC hf dX6_look_224
  have hf := zif_f hf h48
  by_cases h52 : p2 = 16
  · have hf := zif_t hf h52
    refine z_name h52.symm ?_
    refine lv_tableIn (off := 218) (tgt := 225) hx hb dX6_look_7 (by decide) (by decide) (by decide) (by decide) ?_
    refine lv_aload_n hx hb dX6_look_225 rfl (lv_at hl 0 rfl) ?_
    refine zg_4_9 hx hb hts hi4 hown hK hC hk_a4 w19 dX6_look_226 ?_
    obtain ⟨x54, hc53, hf⟩ := zb_inv hf
    refine z_ci (z_rS (b := 0) (As := [.int (zi c 89 a4 0)]) (rest := []) ⟨hx, hb, hml, hown, hts⟩ (c_X6_oneIf (l := l) (D := D) (cy := cy) (base := base) (st := st) (K := K) (L := L) (c := c) (r := r) (o := o) (z := z) (zi c 89 a4 0)  hc53) (va_cwS 1 hts gX6_look_X6_oneIf rfl rfl rfl (by decide +kernel) ⟨Nat.le_of_ble_eq_true rfl, Nat.le_of_ble_eq_true rfl⟩) hG hC rfl hl.1 rfl (lv_room (Nat.le_of_ble_eq_true rfl)) dX6_look_229 ⟨Nat.le_of_ble_eq_true rfl, Nat.le_of_ble_eq_true rfl⟩) hC (fun H locs hC => ?_)
    refine W.widen (k := 2) (n := 12) (Nat.le_of_ble_eq_true rfl) (Nat.le_of_ble_eq_true rfl) ?_
    exact z_xiret (x := x54) hx hb hr hlocks hC hf dX6_look_232
  have hf := zif_f hf h52
  refine lv_tableOut (tgt := 233) hx hb dX6_look_7 (by have q0 := z_ne (k := 0) (by decide) h5; have q1 := z_ne (k := 1) (by decide) h6; have q2 := z_ne (k := 2) (by decide) h8; have q3 := z_ne (k := 3) (by decide) h9; have q4 := z_ne (k := 4) (by decide) h10; have q5 := z_ne (k := 5) (by decide) h14; have q6 := z_ne (k := 6) (by decide) h19; have q7 := z_ne (k := 7) (by decide) h23; have q8 := z_ne (k := 8) (by decide) h27; have q9 := z_ne (k := 9) (by decide) h31; have q10 := z_ne (k := 10) (by decide) h35; have q11 := z_ne (k := 11) (by decide) h39; have q12 := z_ne (k := 12) (by decide) h42; have q13 := z_ne (k := 13) (by decide) h43; have q14 := z_ne (k := 14) (by decide) h46; have q15 := z_ne (k := 15) (by decide) h48; have q16 := z_ne (k := 16) (by decide) h52; omega) (by decide) ?_
  exact z_throwW (own := RX6) (cls := "java/lang/IllegalArgumentException") (text := "what is 0 to 16") (names := ["java/lang/RuntimeException", "java/lang/Exception"]) (ik := 38) (is := 297) (ic := 42) (k := 2) hx hb hst hown rfl rfl w20 w21 (hG.2.2.2.2.2.2.2.1 15 (RX6, 297, "what is 0 to 16") rfl) (z_hat (ws := wsX6_look) hts (by decide +kernel) (by decide +kernel) (hG.2.2.2.2.2.2.2.2.2.1 _ (by decide +kernel)) hG.2.2.2.2.2.2.2.2.2.2.2.2) (by decide +kernel) hG hC hl.1 hml dX6_look_233 dX6_look_236 dX6_look_237 dX6_look_240 dX6_look_243 htab (Nat.le_of_ble_eq_true rfl) (Nat.le_of_ble_eq_true rfl) (Nat.le_of_ble_eq_true rfl) (Nat.le_of_ble_eq_true rfl) hlocks (Nat.le_of_ble_eq_true rfl) (Nat.le_of_ble_eq_true rfl) hf
def f_X6_owed (K : Nat → Nat) (z : Nat) (c : zS) (th : Nat) (p1 : Int32) : Option (Int64 ⊕ Nat) :=
  zt (f_X6_knownTrader K z c th p1) fun o2 => zn K o2 4 fun a4 => some (.inl (zl c 93 a4 0))
set_option maxRecDepth 100000 in
set_option maxHeartbeats 4000000 in
theorem c_X6_owed {l : Launch} {D : va_G} {cy : Nat → ClassId} {base : Nat} {st : Nat → Nat} {K : Nat → Nat} {L : List Nat} {c r : zS} {o : Int64} {z : Nat} (th : Nat) (p1 : Int32) {res : Int64 ⊕ Nat}  (hk_th : K th = 6) (hst : l.stackTraces = false) (hf : f_X6_owed K z c th p1 = some res) : vx_Met l yX6_owed wsX6_owed ({ frames := 7, cells := 1, slots := 6, locals := 122 }) (va_Pc [.ref th, .int p1] (zGW zts0 zns0 D cy base st K L (c, r, o))) (va_Ql (fun (rr : Int64) (u : Unit) => res = .inl rr) (fun u => zB D cy base K L (c, r, o)) (zA base)) (vx_X (fun (x : Nat) => res = .inr x) (fun E x t => E = zE x ∧ zB D cy base K L (c, r, o) t) (zA base)) 1 6 (zA base) := by
  refine vx_ofW (cc := cX6_owed) (maxL := 2) (ret := (some .long)) (by decide) rfl ?_
  intro p e s m args below meth cd s₁ B hml htab hv
  obtain ⟨rfl, hG⟩ := hv
  have hx := B.exec
  have hb := B.bytes
  have hr := B.returns
  have hts := atoms_spec (ws := wsX6_owed) B.pre
  have hown : s.vm.findClass RX6 = some m.cls := findClass_of_methodNamed B.named
  have hlocks := B.notSynchronized
  have hC := hG.enter
  have hK := hG.2.2.2.1
  have hi4 : ∀ w ∈ wsX40, w ∈ wsX6_owed := by decide +kernel
  have w0 := hts (.fieldLink RX6 246 "MarketSquare$Trader" "owed" "J") (by decide +kernel)
  have hl := lv_entry ([.ref th, .int p1]) (n := 2) (Nat.le_of_ble_eq_true rfl)
  rw [lg_entry_eq]
  generalize (lg_sl ([.ref th, .int p1]) ++ List.replicate (2 - (lg_sl ([.ref th, .int p1])).length) Slot.unset).toArray = ls at hl ⊢
  have hl : lv_has ls 2 [(0, .ref th), (1, .int p1)] := hl
  unfold f_X6_owed at hf
  refine lv_aload_n hx hb dX6_owed_0 rfl (lv_at hl 0 rfl) ?_
  refine lv_iload_n hx hb dX6_owed_1 rfl (lv_at hl 1 rfl) ?_
  obtain ⟨q3, hc1, hfn, hfx⟩ := zt_inv hf
  refine z_xcq (z_rxV (As := [.int p1]) (rest := []) ⟨hx, hb, hml, hown, hts⟩ (c_X6_knownTrader (l := l) (D := D) (cy := cy) (base := base) (st := st) (K := K) (L := L) (c := c) (r := r) (o := o) (z := z) th p1 hk_th hst hc1) (cwV 1 hts gX6_owed_X6_knownTrader rfl rfl rfl (by decide +kernel) ⟨Nat.le_of_ble_eq_true rfl, Nat.le_of_ble_eq_true rfl⟩) hG hC (zC.recv (ci := 6) (fs := _) hK hC (by rw [hk_th]; decide) (by rw [hk_th]; exact zc_6 cy _ _) rfl) rfl hl.1 rfl (lv_room (Nat.le_of_ble_eq_true rfl)) dX6_owed_2 ⟨Nat.le_of_ble_eq_true rfl, Nat.le_of_ble_eq_true rfl⟩) hC (fun _ H locs q9 ce hq hC h1 h2 h3 => z_xout htab hlocks (hfx _ hq) hC h1 h2 h3 (Nat.le_of_ble_eq_true rfl) (Nat.le_of_ble_eq_true rfl)) (fun o2 H locs hq hC => ?_)
  have hf := hfn _ hq
  obtain ⟨a4, ea4, hk_a4, hf⟩ := zn_inv hf
  refine z_ref ea4 ?_
  refine zg_4_13 hx hb hts hi4 hown hK hC hk_a4 w0 dX6_owed_5 ?_
  refine W.widen (k := 1) (n := 6) (Nat.le_of_ble_eq_true rfl) (Nat.le_of_ble_eq_true rfl) ?_
  exact z_xlret (x := (zl c 93 a4 0)) hx hb hr hlocks hC hf dX6_owed_8
