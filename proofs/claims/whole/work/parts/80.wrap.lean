section ZL
variable {p : Program} {l : Launch} {e : Env} {R : Room} {s : State} {m : MethodId} {args : Array Value} {below : List Frame} {meth : Method} {cd : Code} {H : Heap} {locs : List Loc} {cells slots : Nat} {Q : State → Prop}
variable {cc : ByteArray} {pc : Nat} {ls : Array Slot} {rest st0 : List Value} {D : va_G} {cy : Nat → ClassId} {base : Nat} {K K' : Nat → Nat} {L L' : List Nat} {Z Z' Z0 : zW} {a : Array Value} {st : Nat → Nat} {mc ms : Nat} {c r : zS} {o : Int64}
theorem z_wret {P : Int32 → zU → Prop} {x : Int32} {u : zU} (hx : p.tables.exec = Jvm.exec) (hb : cd.code = cc) (hr : meth.sig.returnType = some .int) (hlocks : meth.locks = false) (hC : zC D cy base u.1 u.2.1 (u.2.2, r, o) s.heap H locs) (hP : P x u) (hdg : decode cc pc = .ok (.ireturn, 1)) : W p l e R s m args below meth cd H locs cells slots (MQ below (va_Qi (fun (rr : Int32) (u : zU) => P rr u) (fun u => zB D cy base u.1 u.2.1 (u.2.2, r, o)) (zA base)) args s cells slots (zA base)) (F0 m pc ls [.int x]) :=
  W.iret (v := x) hx hb hr (fun t ht hW => ⟨⟨x, u, rfl, hP, hC.out ht⟩, hC.2.2.1.F ht⟩) hC.2.2.1.2.2 hdg hlocks
theorem z_xciW {resc : (Int32 × zS) ⊕ Nat} (hr : vx_Run p l e R s m args below meth cd H locs cells slots mc ms (F0 m pc ls st0) rest (va_Qi (fun (rr : Int32) (u : zS) => resc = .inl (rr, u)) (fun u => zB D cy base K L (u, r, o)) (zA base) a) (vx_X (fun (x : Nat) => resc = .inr x) (fun E x t => E = zE x ∧ zB D cy base K L (c, r, o) t) (zA base)) (zA base)) (hC : zC D cy base K L Z s.heap H locs)
    (kx : ∀ (x : Nat) (H1 : Heap) (locs1 : List Loc) (q9 : Nat) (ce : Cell), resc = .inr x → zC D cy base K L (c, r, o) s.heap H1 locs1 → H1[q9]? = some ce → ce.vm = .none → s.vm.findClass (zE x) = some ce.cls → vx_W p l e R s m args below meth cd H1 locs1 (cells + mc) (slots + ms) Q (F0 m pc ls rest) q9)
    (kk : ∀ (rr : Int32) (u : zS) (H1 : Heap) (locs1 : List Loc), resc = .inl (rr, u) → zC D cy base K L (u, r, o) s.heap H1 locs1 → W p l e R s m args below meth cd H1 locs1 (cells + mc) (slots + ms) Q (F0 m (pc + 3) ls (.int rr :: rest))) : W p l e R s m args below meth cd H locs cells slots Q (F0 m pc ls st0) :=
  vx_calli hr hC.2.2.1 (fun q _ h => h) (fun q h => h) (fun q _ h => h) (fun E ce q9 u t H1 locs1 ht hvm hp hB hz hk hS h1 h2 h3 => by obtain ⟨rfl, hB⟩ := hB; exact kx u H1 locs1 q9 ce hp ⟨by rw [← ht]; exact hB.1, hB.2.1, hS, hB.2.2⟩ h1 h2 h3) (fun rr u t H1 locs1 ht hvm hp hB hz hk hS => kk rr u H1 locs1 hp ⟨by rw [← ht]; exact hB.1, hB.2.1, hS, hB.2.2⟩)
theorem z_xclW {resc : (Int64 × zS) ⊕ Nat} (hr : vx_Run p l e R s m args below meth cd H locs cells slots mc ms (F0 m pc ls st0) rest (va_Ql (fun (rr : Int64) (u : zS) => resc = .inl (rr, u)) (fun u => zB D cy base K L (u, r, o)) (zA base) a) (vx_X (fun (x : Nat) => resc = .inr x) (fun E x t => E = zE x ∧ zB D cy base K L (c, r, o) t) (zA base)) (zA base)) (hC : zC D cy base K L Z s.heap H locs)
    (kx : ∀ (x : Nat) (H1 : Heap) (locs1 : List Loc) (q9 : Nat) (ce : Cell), resc = .inr x → zC D cy base K L (c, r, o) s.heap H1 locs1 → H1[q9]? = some ce → ce.vm = .none → s.vm.findClass (zE x) = some ce.cls → vx_W p l e R s m args below meth cd H1 locs1 (cells + mc) (slots + ms) Q (F0 m pc ls rest) q9)
    (kk : ∀ (rr : Int64) (u : zS) (H1 : Heap) (locs1 : List Loc), resc = .inl (rr, u) → zC D cy base K L (u, r, o) s.heap H1 locs1 → W p l e R s m args below meth cd H1 locs1 (cells + mc) (slots + ms) Q (F0 m (pc + 3) ls (.long rr :: rest))) : W p l e R s m args below meth cd H locs cells slots Q (F0 m pc ls st0) :=
  vx_calll hr hC.2.2.1 (fun q _ h => h) (fun q h => h) (fun q _ h => h) (fun E ce q9 u t H1 locs1 ht hvm hp hB hz hk hS h1 h2 h3 => by obtain ⟨rfl, hB⟩ := hB; exact kx u H1 locs1 q9 ce hp ⟨by rw [← ht]; exact hB.1, hB.2.1, hS, hB.2.2⟩ h1 h2 h3) (fun rr u t H1 locs1 ht hvm hp hB hz hk hS => kk rr u H1 locs1 hp ⟨by rw [← ht]; exact hB.1, hB.2.1, hS, hB.2.2⟩)
theorem z_xcvW {resc : zS ⊕ Nat} (hr : vx_Run p l e R s m args below meth cd H locs cells slots mc ms (F0 m pc ls st0) rest (va_Qv (fun (u : zS) => resc = .inl u) (fun u => zB D cy base K L (u, r, o)) (zA base) a) (vx_X (fun (x : Nat) => resc = .inr x) (fun E x t => E = zE x ∧ zB D cy base K L (c, r, o) t) (zA base)) (zA base)) (hC : zC D cy base K L Z s.heap H locs)
    (kx : ∀ (x : Nat) (H1 : Heap) (locs1 : List Loc) (q9 : Nat) (ce : Cell), resc = .inr x → zC D cy base K L (c, r, o) s.heap H1 locs1 → H1[q9]? = some ce → ce.vm = .none → s.vm.findClass (zE x) = some ce.cls → vx_W p l e R s m args below meth cd H1 locs1 (cells + mc) (slots + ms) Q (F0 m pc ls rest) q9)
    (kk : ∀ (u : zS) (H1 : Heap) (locs1 : List Loc), resc = .inl u → zC D cy base K L (u, r, o) s.heap H1 locs1 → W p l e R s m args below meth cd H1 locs1 (cells + mc) (slots + ms) Q (F0 m (pc + 3) ls rest)) : W p l e R s m args below meth cd H locs cells slots Q (F0 m pc ls st0) :=
  vx_callv hr hC.2.2.1 (fun q _ h => h) (fun q h => h) (fun q _ h => h) (fun E ce q9 u t H1 locs1 ht hvm hp hB hz hk hS h1 h2 h3 => by obtain ⟨rfl, hB⟩ := hB; exact kx u H1 locs1 q9 ce hp ⟨by rw [← ht]; exact hB.1, hB.2.1, hS, hB.2.2⟩ h1 h2 h3) (fun u t H1 locs1 ht hvm hp hB hz hk hS => kk u H1 locs1 hp ⟨by rw [← ht]; exact hB.1, hB.2.1, hS, hB.2.2⟩)
theorem z_xciA {P : Int32 → (Nat → Nat) → List Nat → zS → Prop} {resc : Nat ⊕ Nat} (hr : vx_Run p l e R s m args below meth cd H locs cells slots mc ms (F0 m pc ls st0) rest (va_Qi (fun (rr : Int32) (u : (Nat → Nat) × List Nat × zS) => P rr u.1 u.2.1 u.2.2) (fun u => zB D cy base u.1 u.2.1 (u.2.2, r, o)) (zA base) a) (vx_X (fun (x : Nat) => resc = .inr x) (fun E x t => E = zE x ∧ zB D cy base K L (c, r, o) t) (zA base)) (zA base)) (hC : zC D cy base K L Z s.heap H locs)
    (kx : ∀ (x : Nat) (H1 : Heap) (locs1 : List Loc) (q9 : Nat) (ce : Cell), resc = .inr x → zC D cy base K L (c, r, o) s.heap H1 locs1 → H1[q9]? = some ce → ce.vm = .none → s.vm.findClass (zE x) = some ce.cls → vx_W p l e R s m args below meth cd H1 locs1 (cells + mc) (slots + ms) Q (F0 m pc ls rest) q9)
    (kk : ∀ (rr : Int32) (K1 : Nat → Nat) (L1 : List Nat) (c1 : zS) (H1 : Heap) (locs1 : List Loc), P rr K1 L1 c1 → zC D cy base K1 L1 (c1, r, o) s.heap H1 locs1 → W p l e R s m args below meth cd H1 locs1 (cells + mc) (slots + ms) Q (F0 m (pc + 3) ls (.int rr :: rest))) : W p l e R s m args below meth cd H locs cells slots Q (F0 m pc ls st0) :=
  vx_calli hr hC.2.2.1 (fun q _ h => h) (fun q h => h) (fun q _ h => h) (fun E ce q9 u t H1 locs1 ht hvm hp hB hz hk hS h1 h2 h3 => by obtain ⟨rfl, hB⟩ := hB; exact kx u H1 locs1 q9 ce hp ⟨by rw [← ht]; exact hB.1, hB.2.1, hS, hB.2.2⟩ h1 h2 h3) (fun rr u t H1 locs1 ht hvm hp hB hz hk hS => kk rr u.1 u.2.1 u.2.2 H1 locs1 hp ⟨by rw [← ht]; exact hB.1, hB.2.1, hS, hB.2.2⟩)
end ZL
set_option maxRecDepth 100000 in
set_option maxHeartbeats 4000000 in
theorem c_L_row {l : Launch} {D : va_G} {cy : Nat → ClassId} {base : Nat} {st : Nat → Nat} {K : Nat → Nat} {L : List Nat} {c r : zS} {o : Int64} {z : Nat} (th : Nat) (p1 : Int32) (p2 : Int32) {res : zS ⊕ Nat} (hk_th : K th = 6) (hst : l.stackTraces = false) (hf : f_X6_row K z c th p1 p2 = some res) (herr : ∀ x, res = .inr x → x = 1 ∨ x = 2 ∨ x = 3) : Met l yL_row wsL_row ({ frames := 8, cells := 3, slots := 18, locals := 145 }) (va_Pc [.ref th, .int p1, .int p2] (zGW zts0 zns0 D cy base st K L (c, r, o))) (va_Qi (fun (rr : Int32) (u : zU) => (∃ c1 : zS, res = .inl c1 ∧ rr = 0 ∧ u = (K, L, c1)) ∨ (res = .inr 1 ∧ rr = 1 ∧ u = (K, L, c)) ∨ (res = .inr 2 ∧ rr = 2 ∧ u = (K, L, c)) ∨ (res = .inr 3 ∧ rr = 3 ∧ u = (K, L, c))) (fun u => zB D cy base u.1 u.2.1 (u.2.2, r, o)) (zA base)) 3 18 (zA base) := by
  refine va_MetW (cc := cL_row) (maxL := 4) (ret := (some .int)) (hh := [(0, 6, 9, 13), (0, 6, 12, 15), (0, 6, 15, 17)]) (by decide) rfl ?_
  intro p e s m args below meth cd s₁ B hml hv
  obtain ⟨rfl, hG⟩ := hv
  have hx := B.exec
  have hb := B.bytes
  have hr := B.returns
  have hts := atoms_spec (ws := wsL_row) B.pre
  have htab := vx_table (x := yL_row) B (hts _ List.mem_cons_self)
  have hown : s.vm.findClass RL = some m.cls := findClass_of_methodNamed B.named
  have hlocks := B.notSynchronized
  have hC := hG.enter
  have hK := hG.2.2.2.1
  have hCa := hG.2.2.2.2.2.2.2.2.2.1
  have hNc := hG.2.2.2.2.2.2.2.2.2.2.1
  have w0 := hts (.classLink RL 13 "java/lang/IndexOutOfBoundsException") (by decide +kernel)
  have w1 := hts (.classLink RL 15 "java/lang/IllegalArgumentException") (by decide +kernel)
  have w2 := hts (.classLink RL 17 "java/lang/IllegalStateException") (by decide +kernel)
  have hl := lv_entry ([.ref th, .int p1, .int p2]) (n := 4) (Nat.le_of_ble_eq_true rfl)
  rw [lg_entry_eq]
  generalize (lg_sl ([.ref th, .int p1, .int p2]) ++ List.replicate (4 - (lg_sl ([.ref th, .int p1, .int p2])).length) Slot.unset).toArray = ls at hl ⊢
  have hl : lv_has ls 4 [(0, .ref th), (1, .int p1), (2, .int p2)] := hl
  refine lv_aload_n hx hb dL_row_0 rfl (lv_at hl 0 rfl) ?_
  refine lv_iload_n hx hb dL_row_1 rfl (lv_at hl 1 rfl) ?_
  refine lv_iload_n hx hb dL_row_2 rfl (lv_at hl 2 rfl) ?_
  refine z_xcvW (z_rxV (As := [.int p1, .int p2]) (rest := []) ⟨hx, hb, hml, hown, hts⟩ (c_X6_row (l := l) (D := D) (cy := cy) (base := base) (st := st) (K := K) (L := L) (c := c) (r := r) (o := o) (z := z) th p1 p2 hk_th hst hf) (cwV 2 hts gL_row_X6_row rfl rfl rfl (by decide +kernel) ⟨(Nat.le_of_ble_eq_true rfl), (Nat.le_of_ble_eq_true rfl)⟩) hG hC (zC.recv (ci := 6) (fs := _) hK hC (by rw [hk_th]; decide) (by rw [hk_th]; exact zc_6 cy _ _) rfl) rfl hl.1 rfl (lv_room (Nat.le_of_ble_eq_true rfl)) dL_row_3 ⟨(Nat.le_of_ble_eq_true rfl), (Nat.le_of_ble_eq_true rfl)⟩) hC (fun _ H locs q9 ce hq hC h1 h2 h3 => ?_) (fun c1 H locs hq hC => ?_)
  · rcases herr _ hq with rfl | rfl | rfl
    · refine vx_catch (E := "java/lang/IndexOutOfBoundsException") (name := "java/lang/IndexOutOfBoundsException") hown [] ⟨0, 6, 9, 13⟩ [⟨0, 6, 12, 15⟩, ⟨0, 6, 15, 17⟩] (htab.trans rfl) (fun z hz => nomatch hz) (by decide) (by decide) w0 (va_Nw.use rfl (hCa _ (by decide +kernel))) h1 h2 h3 ?_
      refine lv_astore_n (lv' := [(3, .ref q9), (0, .ref th), (1, .int p1), (2, .int p2)]) hx hb dL_row_9 rfl hl (by decide) rfl (fun ls hl => ?_)
      refine lv_iconst (v := 1) hx hb dL_row_10 (by decide) ?_
      refine W.widen (k := 3) (n := 18) (Nat.le_of_ble_eq_true rfl) (Nat.le_of_ble_eq_true rfl) ?_
      exact z_wret (u := (K, L, c)) hx hb hr hlocks hC (Or.inr (Or.inl ⟨hq, rfl, rfl⟩)) dL_row_11
    · refine vx_catch (E := "java/lang/IllegalArgumentException") (name := "java/lang/IllegalArgumentException") hown [⟨0, 6, 9, 13⟩] ⟨0, 6, 12, 15⟩ [⟨0, 6, 15, 17⟩] (htab.trans rfl) (fun z hz => by simp only [List.mem_cons, List.not_mem_nil, or_false] at hz; subst hz; exact Or.inr ⟨by decide, _, w0, hNc "java/lang/IllegalArgumentException" (by decide +kernel) "java/lang/IndexOutOfBoundsException" (by decide +kernel) (by decide +kernel)⟩) (by decide) (by decide) w1 (va_Nw.use rfl (hCa _ (by decide +kernel))) h1 h2 h3 ?_
      refine lv_astore_n (lv' := [(3, .ref q9), (0, .ref th), (1, .int p1), (2, .int p2)]) hx hb dL_row_12 rfl hl (by decide) rfl (fun ls hl => ?_)
      refine lv_iconst (v := 2) hx hb dL_row_13 (by decide) ?_
      refine W.widen (k := 3) (n := 18) (Nat.le_of_ble_eq_true rfl) (Nat.le_of_ble_eq_true rfl) ?_
      exact z_wret (u := (K, L, c)) hx hb hr hlocks hC (Or.inr (Or.inr (Or.inl ⟨hq, rfl, rfl⟩))) dL_row_14
    · refine vx_catch (E := "java/lang/IllegalStateException") (name := "java/lang/IllegalStateException") hown [⟨0, 6, 9, 13⟩, ⟨0, 6, 12, 15⟩] ⟨0, 6, 15, 17⟩ [] (htab.trans rfl) (fun z hz => by simp only [List.mem_cons, List.not_mem_nil, or_false] at hz; rcases hz with rfl | rfl; exact Or.inr ⟨by decide, _, w0, hNc "java/lang/IllegalStateException" (by decide +kernel) "java/lang/IndexOutOfBoundsException" (by decide +kernel) (by decide +kernel)⟩; exact Or.inr ⟨by decide, _, w1, hNc "java/lang/IllegalStateException" (by decide +kernel) "java/lang/IllegalArgumentException" (by decide +kernel) (by decide +kernel)⟩) (by decide) (by decide) w2 (va_Nw.use rfl (hCa _ (by decide +kernel))) h1 h2 h3 ?_
      refine lv_astore_n (lv' := [(3, .ref q9), (0, .ref th), (1, .int p1), (2, .int p2)]) hx hb dL_row_15 rfl hl (by decide) rfl (fun ls hl => ?_)
      refine lv_iconst (v := 3) hx hb dL_row_16 (by decide) ?_
      refine W.widen (k := 3) (n := 18) (Nat.le_of_ble_eq_true rfl) (Nat.le_of_ble_eq_true rfl) ?_
      exact z_wret (u := (K, L, c)) hx hb hr hlocks hC (Or.inr (Or.inr (Or.inr (⟨hq, rfl, rfl⟩)))) dL_row_17
  · refine lv_goto (tgt := 18) hx hb dL_row_6 (by decide) ?_
    refine lv_iconst (v := 0) hx hb dL_row_18 (by decide) ?_
    refine W.widen (k := 3) (n := 18) (Nat.le_of_ble_eq_true rfl) (Nat.le_of_ble_eq_true rfl) ?_
    exact z_wret (u := (K, L, c1)) hx hb hr hlocks hC (Or.inl ⟨c1, hq, rfl, rfl⟩) dL_row_19
set_option maxRecDepth 100000 in
set_option maxHeartbeats 4000000 in
theorem c_L_mark {l : Launch} {D : va_G} {cy : Nat → ClassId} {base : Nat} {st : Nat → Nat} {K : Nat → Nat} {L : List Nat} {c r : zS} {o : Int64} {z : Nat} (th : Nat) (p1 : Int32) (p2 : Int32) (p3 : Int32) (p4 : Int32) (ou : Nat) {res : (Int32 × zS) ⊕ Nat} (hk_th : K th = 6) (hk_ou : K ou = 17) (hst : l.stackTraces = false) (hf : f_X6_mark K z c th p1 p2 p3 p4 = some res) (herr : ∀ x, res = .inr x → x = 1 ∨ x = 2 ∨ x = 3) : Met l yL_mark wsL_mark ({ frames := 8, cells := 3, slots := 18, locals := 147 }) (va_Pc [.ref th, .int p1, .int p2, .int p3, .int p4, .ref ou] (zGW zts0 zns0 D cy base st K L (c, r, o))) (va_Qi (fun (rr : Int32) (u : zU) => (∃ (x : Int32) (c1 : zS), res = .inl (x, c1) ∧ rr = 0 ∧ u = (K, L, zul c1 170 ou 0 (if x = 0 then 0 else 1))) ∨ (res = .inr 1 ∧ rr = 1 ∧ u = (K, L, c)) ∨ (res = .inr 2 ∧ rr = 2 ∧ u = (K, L, c)) ∨ (res = .inr 3 ∧ rr = 3 ∧ u = (K, L, c))) (fun u => zB D cy base u.1 u.2.1 (u.2.2, r, o)) (zA base)) 3 18 (zA base) := by
  refine va_MetW (cc := cL_mark) (maxL := 7) (ret := (some .int)) (hh := [(0, 21, 24, 13), (0, 21, 28, 15), (0, 21, 32, 17)]) (by decide) rfl ?_
  intro p e s m args below meth cd s₁ B hml hv
  obtain ⟨rfl, hG⟩ := hv
  have hx := B.exec
  have hb := B.bytes
  have hr := B.returns
  have hts := atoms_spec (ws := wsL_mark) B.pre
  have htab := vx_table (x := yL_mark) B (hts _ List.mem_cons_self)
  have hown : s.vm.findClass RL = some m.cls := findClass_of_methodNamed B.named
  have hlocks := B.notSynchronized
  have hC := hG.enter
  have hK := hG.2.2.2.1
  have hCa := hG.2.2.2.2.2.2.2.2.2.1
  have hNc := hG.2.2.2.2.2.2.2.2.2.2.1
  have w0 := hts (.classLink RL 13 "java/lang/IndexOutOfBoundsException") (by decide +kernel)
  have w1 := hts (.classLink RL 15 "java/lang/IllegalArgumentException") (by decide +kernel)
  have w2 := hts (.classLink RL 17 "java/lang/IllegalStateException") (by decide +kernel)
  have hl := lv_entry ([.ref th, .int p1, .int p2, .int p3, .int p4, .ref ou]) (n := 7) (Nat.le_of_ble_eq_true rfl)
  rw [lg_entry_eq]
  generalize (lg_sl ([.ref th, .int p1, .int p2, .int p3, .int p4, .ref ou]) ++ List.replicate (7 - (lg_sl ([.ref th, .int p1, .int p2, .int p3, .int p4, .ref ou])).length) Slot.unset).toArray = ls at hl ⊢
  have hl : lv_has ls 7 [(0, .ref th), (1, .int p1), (2, .int p2), (3, .int p3), (4, .int p4), (5, .ref ou)] := hl
  refine lv_aload hx hb dL_mark_0 (lv_at hl 5 rfl) ?_
  refine lv_iconst (v := 0) hx hb dL_mark_2 (by decide) ?_
  refine lv_aload_n hx hb dL_mark_3 rfl (lv_at hl 0 rfl) ?_
  refine lv_iload_n hx hb dL_mark_4 rfl (lv_at hl 1 rfl) ?_
  refine lv_iload_n hx hb dL_mark_5 rfl (lv_at hl 2 rfl) ?_
  refine lv_iload_n hx hb dL_mark_6 rfl (lv_at hl 3 rfl) ?_
  refine lv_iload hx hb dL_mark_7 (lv_at hl 4 rfl) ?_
  refine z_xciW (z_rxV (As := [.int p1, .int p2, .int p3, .int p4]) (rest := [.int 0, .ref ou]) ⟨hx, hb, hml, hown, hts⟩ (c_X6_mark (l := l) (D := D) (cy := cy) (base := base) (st := st) (K := K) (L := L) (c := c) (r := r) (o := o) (z := z) th p1 p2 p3 p4 hk_th hst hf) (cwV 4 hts gL_mark_X6_mark rfl rfl rfl (by decide +kernel) ⟨(Nat.le_of_ble_eq_true rfl), (Nat.le_of_ble_eq_true rfl)⟩) hG hC (zC.recv (ci := 6) (fs := _) hK hC (by rw [hk_th]; decide) (by rw [hk_th]; exact zc_6 cy _ _) rfl) rfl hl.1 rfl (lv_room (Nat.le_of_ble_eq_true rfl)) dL_mark_9 ⟨(Nat.le_of_ble_eq_true rfl), (Nat.le_of_ble_eq_true rfl)⟩) hC (fun _ H locs q9 ce hq hC h1 h2 h3 => ?_) (fun x c1 H locs hq hC => ?_)
  · rcases herr _ hq with rfl | rfl | rfl
    · refine vx_catch (E := "java/lang/IndexOutOfBoundsException") (name := "java/lang/IndexOutOfBoundsException") hown [] ⟨0, 21, 24, 13⟩ [⟨0, 21, 28, 15⟩, ⟨0, 21, 32, 17⟩] (htab.trans rfl) (fun z hz => nomatch hz) (by decide) (by decide) w0 (va_Nw.use rfl (hCa _ (by decide +kernel))) h1 h2 h3 ?_
      refine lv_astore (lv' := [(6, .ref q9), (0, .ref th), (1, .int p1), (2, .int p2), (3, .int p3), (4, .int p4), (5, .ref ou)]) hx hb dL_mark_24 hl (by decide) rfl (fun ls hl => ?_)
      refine lv_iconst (v := 1) hx hb dL_mark_26 (by decide) ?_
      refine W.widen (k := 3) (n := 18) (Nat.le_of_ble_eq_true rfl) (Nat.le_of_ble_eq_true rfl) ?_
      exact z_wret (u := (K, L, c)) hx hb hr hlocks hC (Or.inr (Or.inl ⟨hq, rfl, rfl⟩)) dL_mark_27
    · refine vx_catch (E := "java/lang/IllegalArgumentException") (name := "java/lang/IllegalArgumentException") hown [⟨0, 21, 24, 13⟩] ⟨0, 21, 28, 15⟩ [⟨0, 21, 32, 17⟩] (htab.trans rfl) (fun z hz => by simp only [List.mem_cons, List.not_mem_nil, or_false] at hz; subst hz; exact Or.inr ⟨by decide, _, w0, hNc "java/lang/IllegalArgumentException" (by decide +kernel) "java/lang/IndexOutOfBoundsException" (by decide +kernel) (by decide +kernel)⟩) (by decide) (by decide) w1 (va_Nw.use rfl (hCa _ (by decide +kernel))) h1 h2 h3 ?_
      refine lv_astore (lv' := [(6, .ref q9), (0, .ref th), (1, .int p1), (2, .int p2), (3, .int p3), (4, .int p4), (5, .ref ou)]) hx hb dL_mark_28 hl (by decide) rfl (fun ls hl => ?_)
      refine lv_iconst (v := 2) hx hb dL_mark_30 (by decide) ?_
      refine W.widen (k := 3) (n := 18) (Nat.le_of_ble_eq_true rfl) (Nat.le_of_ble_eq_true rfl) ?_
      exact z_wret (u := (K, L, c)) hx hb hr hlocks hC (Or.inr (Or.inr (Or.inl ⟨hq, rfl, rfl⟩))) dL_mark_31
    · refine vx_catch (E := "java/lang/IllegalStateException") (name := "java/lang/IllegalStateException") hown [⟨0, 21, 24, 13⟩, ⟨0, 21, 28, 15⟩] ⟨0, 21, 32, 17⟩ [] (htab.trans rfl) (fun z hz => by simp only [List.mem_cons, List.not_mem_nil, or_false] at hz; rcases hz with rfl | rfl; exact Or.inr ⟨by decide, _, w0, hNc "java/lang/IllegalStateException" (by decide +kernel) "java/lang/IndexOutOfBoundsException" (by decide +kernel) (by decide +kernel)⟩; exact Or.inr ⟨by decide, _, w1, hNc "java/lang/IllegalStateException" (by decide +kernel) "java/lang/IllegalArgumentException" (by decide +kernel) (by decide +kernel)⟩) (by decide) (by decide) w2 (va_Nw.use rfl (hCa _ (by decide +kernel))) h1 h2 h3 ?_
      refine lv_astore (lv' := [(6, .ref q9), (0, .ref th), (1, .int p1), (2, .int p2), (3, .int p3), (4, .int p4), (5, .ref ou)]) hx hb dL_mark_32 hl (by decide) rfl (fun ls hl => ?_)
      refine lv_iconst (v := 3) hx hb dL_mark_34 (by decide) ?_
      refine W.widen (k := 3) (n := 18) (Nat.le_of_ble_eq_true rfl) (Nat.le_of_ble_eq_true rfl) ?_
      exact z_wret (u := (K, L, c)) hx hb hr hlocks hC (Or.inr (Or.inr (Or.inr (⟨hq, rfl, rfl⟩)))) dL_mark_35
  · refine lv_if_eq (tgt := 19) hx hb dL_mark_12 (by decide) (fun hx0 => ?_) (fun hx0 => ?_)
    · have hxx : (if x = 0 then (0 : Int64) else 1) = 0 := if_pos hx0
      refine lv_lconst (v := 0) hx hb dL_mark_19 (by decide) ?_
      refine xp_17 (c1 := zul c1 170 ou 0 0) hx hb hK hC hk_ou (by unfold vp_in; decide) rfl dL_mark_20 (fun H locs hC => ?_)
      refine lv_goto (tgt := 36) hx hb dL_mark_21 (by decide) ?_
      refine lv_iconst (v := 0) hx hb dL_mark_36 (by decide) ?_
      refine W.widen (k := 3) (n := 18) (Nat.le_of_ble_eq_true rfl) (Nat.le_of_ble_eq_true rfl) ?_
      exact z_wret (u := (K, L, zul c1 170 ou 0 0)) hx hb hr hlocks hC (Or.inl ⟨x, c1, hq, rfl, by rw [hxx]⟩) dL_mark_37
    · have hxx : (if x = 0 then (0 : Int64) else 1) = 1 := if_neg hx0
      refine lv_lconst (v := 1) hx hb dL_mark_15 (by decide) ?_
      refine lv_goto (tgt := 20) hx hb dL_mark_16 (by decide) ?_
      refine xp_17 (c1 := zul c1 170 ou 0 1) hx hb hK hC hk_ou (by unfold vp_in; decide) rfl dL_mark_20 (fun H locs hC => ?_)
      refine lv_goto (tgt := 36) hx hb dL_mark_21 (by decide) ?_
      refine lv_iconst (v := 0) hx hb dL_mark_36 (by decide) ?_
      refine W.widen (k := 3) (n := 18) (Nat.le_of_ble_eq_true rfl) (Nat.le_of_ble_eq_true rfl) ?_
      exact z_wret (u := (K, L, zul c1 170 ou 0 1)) hx hb hr hlocks hC (Or.inl ⟨x, c1, hq, rfl, by rw [hxx]⟩) dL_mark_37
set_option maxRecDepth 100000 in
set_option maxHeartbeats 4000000 in
theorem c_L_trade {l : Launch} {D : va_G} {cy : Nat → ClassId} {base : Nat} {st : Nat → Nat} {K : Nat → Nat} {L : List Nat} {c r : zS} {o : Int64} {z : Nat} (th : Nat) (p1 : Int32) (p2 : Int32) (p3 : Int32) (ou : Nat) {res : Nat ⊕ Nat} (hk_th : K th = 6) (hk_ou : K ou = 17) (hst : l.stackTraces = false) (hf : f_X6_trade K z c th p1 p2 p3 = some res) (herr : ∀ x, res = .inr x → x = 2 ∨ x = 4) : Met l yL_trade wsL_trade ({ frames := 7, cells := 2, slots := 12, locals := 124 }) (va_Pc [.ref th, .int p1, .int p2, .int p3, .ref ou] (zGW zts0 zns0 D cy base st K L (c, r, o))) (va_Qi (fun (rr : Int32) (u : zU) => (∃ (x : Int32) (K1 : Nat → Nat) (L1 : List Nat) (c1 : zS) (a9 : Nat), res = .inl a9 ∧ g_X6_trade K L c th p1 p2 p3 a9 x K1 L1 c1 ∧ rr = 0 ∧ u = (K1, L1, zul c1 170 ou 0 (Int32.toInt64 x))) ∨ (res = .inr 2 ∧ rr = 1 ∧ u = (K, L, c)) ∨ (res = .inr 4 ∧ rr = 2 ∧ u = (K, L, c))) (fun u => zB D cy base u.1 u.2.1 (u.2.2, r, o)) (zA base)) 2 12 (zA base) := by
  refine va_MetW (cc := cL_trade) (maxL := 6) (ret := (some .int)) (hh := [(0, 12, 15, 15), (0, 12, 19, 27)]) (by decide) rfl ?_
  intro p e s m args below meth cd s₁ B hml hv
  obtain ⟨rfl, hG⟩ := hv
  have hx := B.exec
  have hb := B.bytes
  have hr := B.returns
  have hts := atoms_spec (ws := wsL_trade) B.pre
  have htab := vx_table (x := yL_trade) B (hts _ List.mem_cons_self)
  have hown : s.vm.findClass RL = some m.cls := findClass_of_methodNamed B.named
  have hlocks := B.notSynchronized
  have hC := hG.enter
  have hK := hG.2.2.2.1
  have hCa := hG.2.2.2.2.2.2.2.2.2.1
  have hNc := hG.2.2.2.2.2.2.2.2.2.2.1
  have w0 := hts (.classLink RL 15 "java/lang/IllegalArgumentException") (by decide +kernel)
  have w1 := hts (.classLink RL 27 "java/lang/UnsupportedOperationException") (by decide +kernel)
  have hl := lv_entry ([.ref th, .int p1, .int p2, .int p3, .ref ou]) (n := 6) (Nat.le_of_ble_eq_true rfl)
  rw [lg_entry_eq]
  generalize (lg_sl ([.ref th, .int p1, .int p2, .int p3, .ref ou]) ++ List.replicate (6 - (lg_sl ([.ref th, .int p1, .int p2, .int p3, .ref ou])).length) Slot.unset).toArray = ls at hl ⊢
  have hl : lv_has ls 6 [(0, .ref th), (1, .int p1), (2, .int p2), (3, .int p3), (4, .ref ou)] := hl
  refine lv_aload hx hb dL_trade_0 (lv_at hl 4 rfl) ?_
  refine lv_iconst (v := 0) hx hb dL_trade_2 (by decide) ?_
  refine lv_aload_n hx hb dL_trade_3 rfl (lv_at hl 0 rfl) ?_
  refine lv_iload_n hx hb dL_trade_4 rfl (lv_at hl 1 rfl) ?_
  refine lv_iload_n hx hb dL_trade_5 rfl (lv_at hl 2 rfl) ?_
  refine lv_iload_n hx hb dL_trade_6 rfl (lv_at hl 3 rfl) ?_
  refine z_xciA (P := fun rr K1 L1 c1 => ∃ a, res = .inl a ∧ g_X6_trade K L c th p1 p2 p3 a rr K1 L1 c1) (z_rxV (As := [.int p1, .int p2, .int p3]) (rest := [.int 0, .ref ou]) ⟨hx, hb, hml, hown, hts⟩ (c_X6_trade (l := l) (D := D) (cy := cy) (base := base) (st := st) (K := K) (L := L) (c := c) (r := r) (o := o) (z := z) th p1 p2 p3 hk_th hst hf) (cwV 3 hts gL_trade_X6_trade rfl rfl rfl (by decide +kernel) ⟨(Nat.le_of_ble_eq_true rfl), (Nat.le_of_ble_eq_true rfl)⟩) hG hC (zC.recv (ci := 6) (fs := _) hK hC (by rw [hk_th]; decide) (by rw [hk_th]; exact zc_6 cy _ _) rfl) rfl hl.1 rfl (lv_room (Nat.le_of_ble_eq_true rfl)) dL_trade_7 ⟨(Nat.le_of_ble_eq_true rfl), (Nat.le_of_ble_eq_true rfl)⟩) hC (fun _ H locs q9 ce hq hC h1 h2 h3 => ?_) (fun x K1 L1 c1 H locs hq hC => ?_)
  · rcases herr _ hq with rfl | rfl
    · refine vx_catch (E := "java/lang/IllegalArgumentException") (name := "java/lang/IllegalArgumentException") hown [] ⟨0, 12, 15, 15⟩ [⟨0, 12, 19, 27⟩] (htab.trans rfl) (fun z hz => nomatch hz) (by decide) (by decide) w0 (va_Nw.use rfl (hCa _ (by decide +kernel))) h1 h2 h3 ?_
      refine lv_astore (lv' := [(5, .ref q9), (0, .ref th), (1, .int p1), (2, .int p2), (3, .int p3), (4, .ref ou)]) hx hb dL_trade_15 hl (by decide) rfl (fun ls hl => ?_)
      refine lv_iconst (v := 1) hx hb dL_trade_17 (by decide) ?_
      refine W.widen (k := 2) (n := 12) (Nat.le_of_ble_eq_true rfl) (Nat.le_of_ble_eq_true rfl) ?_
      exact z_wret (u := (K, L, c)) hx hb hr hlocks hC (Or.inr (Or.inl ⟨hq, rfl, rfl⟩)) dL_trade_18
    · refine vx_catch (E := "java/lang/UnsupportedOperationException") (name := "java/lang/UnsupportedOperationException") hown [⟨0, 12, 15, 15⟩] ⟨0, 12, 19, 27⟩ [] (htab.trans rfl) (fun z hz => by simp only [List.mem_cons, List.not_mem_nil, or_false] at hz; subst hz; exact Or.inr ⟨by decide, _, w0, hNc "java/lang/UnsupportedOperationException" (by decide +kernel) "java/lang/IllegalArgumentException" (by decide +kernel) (by decide +kernel)⟩) (by decide) (by decide) w1 (va_Nw.use rfl (hCa _ (by decide +kernel))) h1 h2 h3 ?_
      refine lv_astore (lv' := [(5, .ref q9), (0, .ref th), (1, .int p1), (2, .int p2), (3, .int p3), (4, .ref ou)]) hx hb dL_trade_19 hl (by decide) rfl (fun ls hl => ?_)
      refine lv_iconst (v := 2) hx hb dL_trade_21 (by decide) ?_
      refine W.widen (k := 2) (n := 12) (Nat.le_of_ble_eq_true rfl) (Nat.le_of_ble_eq_true rfl) ?_
      exact z_wret (u := (K, L, c)) hx hb hr hlocks hC (Or.inr (Or.inr (⟨hq, rfl, rfl⟩))) dL_trade_22
  · obtain ⟨a9, hq1, hq2⟩ := hq
    have hk_ou1 : K1 ou = 17 := (g_X6_trade_old hq2 _ (by rw [hk_ou]; decide)).trans hk_ou
    refine lv_i2l (v := Int32.toInt64 x) hx hb dL_trade_10 rfl ?_
    refine xp_17 (c1 := zul c1 170 ou 0 (Int32.toInt64 x)) hx hb hK hC hk_ou1 (by unfold vp_in; decide) rfl dL_trade_11 (fun H locs hC => ?_)
    refine lv_goto (tgt := 23) hx hb dL_trade_12 (by decide) ?_
    refine lv_iconst (v := 0) hx hb dL_trade_23 (by decide) ?_
    refine W.widen (k := 2) (n := 12) (Nat.le_of_ble_eq_true rfl) (Nat.le_of_ble_eq_true rfl) ?_
    exact z_wret (u := (K1, L1, zul c1 170 ou 0 (Int32.toInt64 x))) hx hb hr hlocks hC (Or.inl ⟨x, K1, L1, c1, a9, hq1, hq2, rfl, rfl⟩) dL_trade_24
set_option maxRecDepth 100000 in
set_option maxHeartbeats 4000000 in
theorem c_L_pair {l : Launch} {D : va_G} {cy : Nat → ClassId} {base : Nat} {st : Nat → Nat} {K : Nat → Nat} {L : List Nat} {c r : zS} {o : Int64} {z : Nat} (th : Nat) (p1 : Int32) (p2 : Int32) (p3 : Int32) (ou : Nat) {res : (Int32 × zS) ⊕ Nat} (hk_th : K th = 6) (hk_ou : K ou = 17) (hst : l.stackTraces = false) (hf : f_X6_pair K z c th p1 p2 p3 = some res) (herr : ∀ x, res = .inr x → x = 1 ∨ x = 3) : Met l yL_pair wsL_pair ({ frames := 8, cells := 3, slots := 18, locals := 147 }) (va_Pc [.ref th, .int p1, .int p2, .int p3, .ref ou] (zGW zts0 zns0 D cy base st K L (c, r, o))) (va_Qi (fun (rr : Int32) (u : zU) => (∃ (x : Int32) (c1 : zS), res = .inl (x, c1) ∧ rr = 0 ∧ u = (K, L, zul c1 170 ou 0 (if x = 0 then 0 else 1))) ∨ (res = .inr 1 ∧ rr = 1 ∧ u = (K, L, c)) ∨ (res = .inr 3 ∧ rr = 2 ∧ u = (K, L, c))) (fun u => zB D cy base u.1 u.2.1 (u.2.2, r, o)) (zA base)) 3 18 (zA base) := by
  refine va_MetW (cc := cL_pair) (maxL := 6) (ret := (some .int)) (hh := [(0, 19, 22, 13), (0, 19, 26, 17)]) (by decide) rfl ?_
  intro p e s m args below meth cd s₁ B hml hv
  obtain ⟨rfl, hG⟩ := hv
  have hx := B.exec
  have hb := B.bytes
  have hr := B.returns
  have hts := atoms_spec (ws := wsL_pair) B.pre
  have htab := vx_table (x := yL_pair) B (hts _ List.mem_cons_self)
  have hown : s.vm.findClass RL = some m.cls := findClass_of_methodNamed B.named
  have hlocks := B.notSynchronized
  have hC := hG.enter
  have hK := hG.2.2.2.1
  have hCa := hG.2.2.2.2.2.2.2.2.2.1
  have hNc := hG.2.2.2.2.2.2.2.2.2.2.1
  have w0 := hts (.classLink RL 13 "java/lang/IndexOutOfBoundsException") (by decide +kernel)
  have w1 := hts (.classLink RL 17 "java/lang/IllegalStateException") (by decide +kernel)
  have hl := lv_entry ([.ref th, .int p1, .int p2, .int p3, .ref ou]) (n := 6) (Nat.le_of_ble_eq_true rfl)
  rw [lg_entry_eq]
  generalize (lg_sl ([.ref th, .int p1, .int p2, .int p3, .ref ou]) ++ List.replicate (6 - (lg_sl ([.ref th, .int p1, .int p2, .int p3, .ref ou])).length) Slot.unset).toArray = ls at hl ⊢
  have hl : lv_has ls 6 [(0, .ref th), (1, .int p1), (2, .int p2), (3, .int p3), (4, .ref ou)] := hl
  refine lv_aload hx hb dL_pair_0 (lv_at hl 4 rfl) ?_
  refine lv_iconst (v := 0) hx hb dL_pair_2 (by decide) ?_
  refine lv_aload_n hx hb dL_pair_3 rfl (lv_at hl 0 rfl) ?_
  refine lv_iload_n hx hb dL_pair_4 rfl (lv_at hl 1 rfl) ?_
  refine lv_iload_n hx hb dL_pair_5 rfl (lv_at hl 2 rfl) ?_
  refine lv_iload_n hx hb dL_pair_6 rfl (lv_at hl 3 rfl) ?_
  refine z_xciW (z_rxV (As := [.int p1, .int p2, .int p3]) (rest := [.int 0, .ref ou]) ⟨hx, hb, hml, hown, hts⟩ (c_X6_pair (l := l) (D := D) (cy := cy) (base := base) (st := st) (K := K) (L := L) (c := c) (r := r) (o := o) (z := z) th p1 p2 p3 hk_th hst hf) (cwV 3 hts gL_pair_X6_pair rfl rfl rfl (by decide +kernel) ⟨(Nat.le_of_ble_eq_true rfl), (Nat.le_of_ble_eq_true rfl)⟩) hG hC (zC.recv (ci := 6) (fs := _) hK hC (by rw [hk_th]; decide) (by rw [hk_th]; exact zc_6 cy _ _) rfl) rfl hl.1 rfl (lv_room (Nat.le_of_ble_eq_true rfl)) dL_pair_7 ⟨(Nat.le_of_ble_eq_true rfl), (Nat.le_of_ble_eq_true rfl)⟩) hC (fun _ H locs q9 ce hq hC h1 h2 h3 => ?_) (fun x c1 H locs hq hC => ?_)
  · rcases herr _ hq with rfl | rfl
    · refine vx_catch (E := "java/lang/IndexOutOfBoundsException") (name := "java/lang/IndexOutOfBoundsException") hown [] ⟨0, 19, 22, 13⟩ [⟨0, 19, 26, 17⟩] (htab.trans rfl) (fun z hz => nomatch hz) (by decide) (by decide) w0 (va_Nw.use rfl (hCa _ (by decide +kernel))) h1 h2 h3 ?_
      refine lv_astore (lv' := [(5, .ref q9), (0, .ref th), (1, .int p1), (2, .int p2), (3, .int p3), (4, .ref ou)]) hx hb dL_pair_22 hl (by decide) rfl (fun ls hl => ?_)
      refine lv_iconst (v := 1) hx hb dL_pair_24 (by decide) ?_
      refine W.widen (k := 3) (n := 18) (Nat.le_of_ble_eq_true rfl) (Nat.le_of_ble_eq_true rfl) ?_
      exact z_wret (u := (K, L, c)) hx hb hr hlocks hC (Or.inr (Or.inl ⟨hq, rfl, rfl⟩)) dL_pair_25
    · refine vx_catch (E := "java/lang/IllegalStateException") (name := "java/lang/IllegalStateException") hown [⟨0, 19, 22, 13⟩] ⟨0, 19, 26, 17⟩ [] (htab.trans rfl) (fun z hz => by simp only [List.mem_cons, List.not_mem_nil, or_false] at hz; subst hz; exact Or.inr ⟨by decide, _, w0, hNc "java/lang/IllegalStateException" (by decide +kernel) "java/lang/IndexOutOfBoundsException" (by decide +kernel) (by decide +kernel)⟩) (by decide) (by decide) w1 (va_Nw.use rfl (hCa _ (by decide +kernel))) h1 h2 h3 ?_
      refine lv_astore (lv' := [(5, .ref q9), (0, .ref th), (1, .int p1), (2, .int p2), (3, .int p3), (4, .ref ou)]) hx hb dL_pair_26 hl (by decide) rfl (fun ls hl => ?_)
      refine lv_iconst (v := 2) hx hb dL_pair_28 (by decide) ?_
      refine W.widen (k := 3) (n := 18) (Nat.le_of_ble_eq_true rfl) (Nat.le_of_ble_eq_true rfl) ?_
      exact z_wret (u := (K, L, c)) hx hb hr hlocks hC (Or.inr (Or.inr (⟨hq, rfl, rfl⟩))) dL_pair_29
  · refine lv_if_eq (tgt := 17) hx hb dL_pair_10 (by decide) (fun hx0 => ?_) (fun hx0 => ?_)
    · have hxx : (if x = 0 then (0 : Int64) else 1) = 0 := if_pos hx0
      refine lv_lconst (v := 0) hx hb dL_pair_17 (by decide) ?_
      refine xp_17 (c1 := zul c1 170 ou 0 0) hx hb hK hC hk_ou (by unfold vp_in; decide) rfl dL_pair_18 (fun H locs hC => ?_)
      refine lv_goto (tgt := 30) hx hb dL_pair_19 (by decide) ?_
      refine lv_iconst (v := 0) hx hb dL_pair_30 (by decide) ?_
      refine W.widen (k := 3) (n := 18) (Nat.le_of_ble_eq_true rfl) (Nat.le_of_ble_eq_true rfl) ?_
      exact z_wret (u := (K, L, zul c1 170 ou 0 0)) hx hb hr hlocks hC (Or.inl ⟨x, c1, hq, rfl, by rw [hxx]⟩) dL_pair_31
    · have hxx : (if x = 0 then (0 : Int64) else 1) = 1 := if_neg hx0
      refine lv_lconst (v := 1) hx hb dL_pair_13 (by decide) ?_
      refine lv_goto (tgt := 18) hx hb dL_pair_14 (by decide) ?_
      refine xp_17 (c1 := zul c1 170 ou 0 1) hx hb hK hC hk_ou (by unfold vp_in; decide) rfl dL_pair_18 (fun H locs hC => ?_)
      refine lv_goto (tgt := 30) hx hb dL_pair_19 (by decide) ?_
      refine lv_iconst (v := 0) hx hb dL_pair_30 (by decide) ?_
      refine W.widen (k := 3) (n := 18) (Nat.le_of_ble_eq_true rfl) (Nat.le_of_ble_eq_true rfl) ?_
      exact z_wret (u := (K, L, zul c1 170 ou 0 1)) hx hb hr hlocks hC (Or.inl ⟨x, c1, hq, rfl, by rw [hxx]⟩) dL_pair_31
set_option maxRecDepth 100000 in
set_option maxHeartbeats 4000000 in
theorem c_L_trader {l : Launch} {D : va_G} {cy : Nat → ClassId} {base : Nat} {st : Nat → Nat} {K : Nat → Nat} {L : List Nat} {c r : zS} {o : Int64} {z : Nat} (th : Nat) (p1 : Int32) (p2 : Int32) (p3 : Int32) (ou : Nat) {res : Nat ⊕ Nat} (hk_th : K th = 6) (hk_ou : K ou = 17) (hst : l.stackTraces = false) (hf : f_X6_trader K z c th p1 p2 p3 = some res) (herr : ∀ x, res = .inr x → x = 1 ∨ x = 2 ∨ x = 4) : Met l yL_trader wsL_trader ({ frames := 8, cells := 9, slots := 68, locals := 148 }) (va_Pc [.ref th, .int p1, .int p2, .int p3, .ref ou] (zGW zts0 zns0 D cy base st K L (c, r, o))) (va_Qi (fun (rr : Int32) (u : zU) => (∃ (x : Int32) (K1 : Nat → Nat) (L1 : List Nat) (c1 : zS) (a9 : Nat), res = .inl a9 ∧ g_X6_trader K L c th p1 p2 p3 a9 x K1 L1 c1 ∧ rr = 0 ∧ u = (K1, L1, zul c1 170 ou 0 (Int32.toInt64 x))) ∨ (res = .inr 1 ∧ rr = 1 ∧ u = (K, L, c)) ∨ (res = .inr 2 ∧ rr = 2 ∧ u = (K, L, c)) ∨ (res = .inr 4 ∧ rr = 3 ∧ u = (K, L, c))) (fun u => zB D cy base u.1 u.2.1 (u.2.2, r, o)) (zA base)) 9 68 (zA base) := by
  refine va_MetW (cc := cL_trader) (maxL := 6) (ret := (some .int)) (hh := [(0, 12, 15, 13), (0, 12, 19, 15), (0, 12, 23, 27)]) (by decide) rfl ?_
  intro p e s m args below meth cd s₁ B hml hv
  obtain ⟨rfl, hG⟩ := hv
  have hx := B.exec
  have hb := B.bytes
  have hr := B.returns
  have hts := atoms_spec (ws := wsL_trader) B.pre
  have htab := vx_table (x := yL_trader) B (hts _ List.mem_cons_self)
  have hown : s.vm.findClass RL = some m.cls := findClass_of_methodNamed B.named
  have hlocks := B.notSynchronized
  have hC := hG.enter
  have hK := hG.2.2.2.1
  have hCa := hG.2.2.2.2.2.2.2.2.2.1
  have hNc := hG.2.2.2.2.2.2.2.2.2.2.1
  have w0 := hts (.classLink RL 13 "java/lang/IndexOutOfBoundsException") (by decide +kernel)
  have w1 := hts (.classLink RL 15 "java/lang/IllegalArgumentException") (by decide +kernel)
  have w2 := hts (.classLink RL 27 "java/lang/UnsupportedOperationException") (by decide +kernel)
  have hl := lv_entry ([.ref th, .int p1, .int p2, .int p3, .ref ou]) (n := 6) (Nat.le_of_ble_eq_true rfl)
  rw [lg_entry_eq]
  generalize (lg_sl ([.ref th, .int p1, .int p2, .int p3, .ref ou]) ++ List.replicate (6 - (lg_sl ([.ref th, .int p1, .int p2, .int p3, .ref ou])).length) Slot.unset).toArray = ls at hl ⊢
  have hl : lv_has ls 6 [(0, .ref th), (1, .int p1), (2, .int p2), (3, .int p3), (4, .ref ou)] := hl
  refine lv_aload hx hb dL_trader_0 (lv_at hl 4 rfl) ?_
  refine lv_iconst (v := 0) hx hb dL_trader_2 (by decide) ?_
  refine lv_aload_n hx hb dL_trader_3 rfl (lv_at hl 0 rfl) ?_
  refine lv_iload_n hx hb dL_trader_4 rfl (lv_at hl 1 rfl) ?_
  refine lv_iload_n hx hb dL_trader_5 rfl (lv_at hl 2 rfl) ?_
  refine lv_iload_n hx hb dL_trader_6 rfl (lv_at hl 3 rfl) ?_
  refine z_xciA (P := fun rr K1 L1 c1 => ∃ a, res = .inl a ∧ g_X6_trader K L c th p1 p2 p3 a rr K1 L1 c1) (z_rxV (As := [.int p1, .int p2, .int p3]) (rest := [.int 0, .ref ou]) ⟨hx, hb, hml, hown, hts⟩ (c_X6_trader (l := l) (D := D) (cy := cy) (base := base) (st := st) (K := K) (L := L) (c := c) (r := r) (o := o) (z := z) th p1 p2 p3 hk_th hst hf) (cwV 3 hts gL_trader_X6_trader rfl rfl rfl (by decide +kernel) ⟨(Nat.le_of_ble_eq_true rfl), (Nat.le_of_ble_eq_true rfl)⟩) hG hC (zC.recv (ci := 6) (fs := _) hK hC (by rw [hk_th]; decide) (by rw [hk_th]; exact zc_6 cy _ _) rfl) rfl hl.1 rfl (lv_room (Nat.le_of_ble_eq_true rfl)) dL_trader_7 ⟨(Nat.le_of_ble_eq_true rfl), (Nat.le_of_ble_eq_true rfl)⟩) hC (fun _ H locs q9 ce hq hC h1 h2 h3 => ?_) (fun x K1 L1 c1 H locs hq hC => ?_)
  · rcases herr _ hq with rfl | rfl | rfl
    · refine vx_catch (E := "java/lang/IndexOutOfBoundsException") (name := "java/lang/IndexOutOfBoundsException") hown [] ⟨0, 12, 15, 13⟩ [⟨0, 12, 19, 15⟩, ⟨0, 12, 23, 27⟩] (htab.trans rfl) (fun z hz => nomatch hz) (by decide) (by decide) w0 (va_Nw.use rfl (hCa _ (by decide +kernel))) h1 h2 h3 ?_
      refine lv_astore (lv' := [(5, .ref q9), (0, .ref th), (1, .int p1), (2, .int p2), (3, .int p3), (4, .ref ou)]) hx hb dL_trader_15 hl (by decide) rfl (fun ls hl => ?_)
      refine lv_iconst (v := 1) hx hb dL_trader_17 (by decide) ?_
      refine W.widen (k := 9) (n := 68) (Nat.le_of_ble_eq_true rfl) (Nat.le_of_ble_eq_true rfl) ?_
      exact z_wret (u := (K, L, c)) hx hb hr hlocks hC (Or.inr (Or.inl ⟨hq, rfl, rfl⟩)) dL_trader_18
    · refine vx_catch (E := "java/lang/IllegalArgumentException") (name := "java/lang/IllegalArgumentException") hown [⟨0, 12, 15, 13⟩] ⟨0, 12, 19, 15⟩ [⟨0, 12, 23, 27⟩] (htab.trans rfl) (fun z hz => by simp only [List.mem_cons, List.not_mem_nil, or_false] at hz; subst hz; exact Or.inr ⟨by decide, _, w0, hNc "java/lang/IllegalArgumentException" (by decide +kernel) "java/lang/IndexOutOfBoundsException" (by decide +kernel) (by decide +kernel)⟩) (by decide) (by decide) w1 (va_Nw.use rfl (hCa _ (by decide +kernel))) h1 h2 h3 ?_
      refine lv_astore (lv' := [(5, .ref q9), (0, .ref th), (1, .int p1), (2, .int p2), (3, .int p3), (4, .ref ou)]) hx hb dL_trader_19 hl (by decide) rfl (fun ls hl => ?_)
      refine lv_iconst (v := 2) hx hb dL_trader_21 (by decide) ?_
      refine W.widen (k := 9) (n := 68) (Nat.le_of_ble_eq_true rfl) (Nat.le_of_ble_eq_true rfl) ?_
      exact z_wret (u := (K, L, c)) hx hb hr hlocks hC (Or.inr (Or.inr (Or.inl ⟨hq, rfl, rfl⟩))) dL_trader_22
    · refine vx_catch (E := "java/lang/UnsupportedOperationException") (name := "java/lang/UnsupportedOperationException") hown [⟨0, 12, 15, 13⟩, ⟨0, 12, 19, 15⟩] ⟨0, 12, 23, 27⟩ [] (htab.trans rfl) (fun z hz => by simp only [List.mem_cons, List.not_mem_nil, or_false] at hz; rcases hz with rfl | rfl; exact Or.inr ⟨by decide, _, w0, hNc "java/lang/UnsupportedOperationException" (by decide +kernel) "java/lang/IndexOutOfBoundsException" (by decide +kernel) (by decide +kernel)⟩; exact Or.inr ⟨by decide, _, w1, hNc "java/lang/UnsupportedOperationException" (by decide +kernel) "java/lang/IllegalArgumentException" (by decide +kernel) (by decide +kernel)⟩) (by decide) (by decide) w2 (va_Nw.use rfl (hCa _ (by decide +kernel))) h1 h2 h3 ?_
      refine lv_astore (lv' := [(5, .ref q9), (0, .ref th), (1, .int p1), (2, .int p2), (3, .int p3), (4, .ref ou)]) hx hb dL_trader_23 hl (by decide) rfl (fun ls hl => ?_)
      refine lv_iconst (v := 3) hx hb dL_trader_25 (by decide) ?_
      refine W.widen (k := 9) (n := 68) (Nat.le_of_ble_eq_true rfl) (Nat.le_of_ble_eq_true rfl) ?_
      exact z_wret (u := (K, L, c)) hx hb hr hlocks hC (Or.inr (Or.inr (Or.inr (⟨hq, rfl, rfl⟩)))) dL_trader_26
  · obtain ⟨a9, hq1, hq2⟩ := hq
    have hk_ou1 : K1 ou = 17 := (g_X6_trader_old hq2 _ (by rw [hk_ou]; decide)).trans hk_ou
    refine lv_i2l (v := Int32.toInt64 x) hx hb dL_trader_10 rfl ?_
    refine xp_17 (c1 := zul c1 170 ou 0 (Int32.toInt64 x)) hx hb hK hC hk_ou1 (by unfold vp_in; decide) rfl dL_trader_11 (fun H locs hC => ?_)
    refine lv_goto (tgt := 27) hx hb dL_trader_12 (by decide) ?_
    refine lv_iconst (v := 0) hx hb dL_trader_27 (by decide) ?_
    refine W.widen (k := 9) (n := 68) (Nat.le_of_ble_eq_true rfl) (Nat.le_of_ble_eq_true rfl) ?_
    exact z_wret (u := (K1, L1, zul c1 170 ou 0 (Int32.toInt64 x))) hx hb hr hlocks hC (Or.inl ⟨x, K1, L1, c1, a9, hq1, hq2, rfl, rfl⟩) dL_trader_28
set_option maxRecDepth 100000 in
set_option maxHeartbeats 4000000 in
theorem c_L_pitch {l : Launch} {D : va_G} {cy : Nat → ClassId} {base : Nat} {st : Nat → Nat} {K : Nat → Nat} {L : List Nat} {c r : zS} {o : Int64} {z : Nat} (th : Nat) (p1 : Int32) (p2 : Int32) (p3 : Int32) {res : zS ⊕ Nat} (hk_th : K th = 6) (hst : l.stackTraces = false) (hf : f_X6_pitch K z c th p1 p2 p3 = some res) (herr : ∀ x, res = .inr x → x = 1 ∨ x = 2 ∨ x = 3) : Met l yL_pitch wsL_pitch ({ frames := 8, cells := 3, slots := 18, locals := 146 }) (va_Pc [.ref th, .int p1, .int p2, .int p3] (zGW zts0 zns0 D cy base st K L (c, r, o))) (va_Qi (fun (rr : Int32) (u : zU) => (∃ c1 : zS, res = .inl c1 ∧ rr = 0 ∧ u = (K, L, c1)) ∨ (res = .inr 1 ∧ rr = 1 ∧ u = (K, L, c)) ∨ (res = .inr 2 ∧ rr = 2 ∧ u = (K, L, c)) ∨ (res = .inr 3 ∧ rr = 3 ∧ u = (K, L, c))) (fun u => zB D cy base u.1 u.2.1 (u.2.2, r, o)) (zA base)) 3 18 (zA base) := by
  refine va_MetW (cc := cL_pitch) (maxL := 5) (ret := (some .int)) (hh := [(0, 7, 10, 13), (0, 7, 14, 15), (0, 7, 18, 17)]) (by decide) rfl ?_
  intro p e s m args below meth cd s₁ B hml hv
  obtain ⟨rfl, hG⟩ := hv
  have hx := B.exec
  have hb := B.bytes
  have hr := B.returns
  have hts := atoms_spec (ws := wsL_pitch) B.pre
  have htab := vx_table (x := yL_pitch) B (hts _ List.mem_cons_self)
  have hown : s.vm.findClass RL = some m.cls := findClass_of_methodNamed B.named
  have hlocks := B.notSynchronized
  have hC := hG.enter
  have hK := hG.2.2.2.1
  have hCa := hG.2.2.2.2.2.2.2.2.2.1
  have hNc := hG.2.2.2.2.2.2.2.2.2.2.1
  have w0 := hts (.classLink RL 13 "java/lang/IndexOutOfBoundsException") (by decide +kernel)
  have w1 := hts (.classLink RL 15 "java/lang/IllegalArgumentException") (by decide +kernel)
  have w2 := hts (.classLink RL 17 "java/lang/IllegalStateException") (by decide +kernel)
  have hl := lv_entry ([.ref th, .int p1, .int p2, .int p3]) (n := 5) (Nat.le_of_ble_eq_true rfl)
  rw [lg_entry_eq]
  generalize (lg_sl ([.ref th, .int p1, .int p2, .int p3]) ++ List.replicate (5 - (lg_sl ([.ref th, .int p1, .int p2, .int p3])).length) Slot.unset).toArray = ls at hl ⊢
  have hl : lv_has ls 5 [(0, .ref th), (1, .int p1), (2, .int p2), (3, .int p3)] := hl
  refine lv_aload_n hx hb dL_pitch_0 rfl (lv_at hl 0 rfl) ?_
  refine lv_iload_n hx hb dL_pitch_1 rfl (lv_at hl 1 rfl) ?_
  refine lv_iload_n hx hb dL_pitch_2 rfl (lv_at hl 2 rfl) ?_
  refine lv_iload_n hx hb dL_pitch_3 rfl (lv_at hl 3 rfl) ?_
  refine z_xcvW (z_rxV (As := [.int p1, .int p2, .int p3]) (rest := []) ⟨hx, hb, hml, hown, hts⟩ (c_X6_pitch (l := l) (D := D) (cy := cy) (base := base) (st := st) (K := K) (L := L) (c := c) (r := r) (o := o) (z := z) th p1 p2 p3 hk_th hst hf) (cwV 3 hts gL_pitch_X6_pitch rfl rfl rfl (by decide +kernel) ⟨(Nat.le_of_ble_eq_true rfl), (Nat.le_of_ble_eq_true rfl)⟩) hG hC (zC.recv (ci := 6) (fs := _) hK hC (by rw [hk_th]; decide) (by rw [hk_th]; exact zc_6 cy _ _) rfl) rfl hl.1 rfl (lv_room (Nat.le_of_ble_eq_true rfl)) dL_pitch_4 ⟨(Nat.le_of_ble_eq_true rfl), (Nat.le_of_ble_eq_true rfl)⟩) hC (fun _ H locs q9 ce hq hC h1 h2 h3 => ?_) (fun c1 H locs hq hC => ?_)
  · rcases herr _ hq with rfl | rfl | rfl
    · refine vx_catch (E := "java/lang/IndexOutOfBoundsException") (name := "java/lang/IndexOutOfBoundsException") hown [] ⟨0, 7, 10, 13⟩ [⟨0, 7, 14, 15⟩, ⟨0, 7, 18, 17⟩] (htab.trans rfl) (fun z hz => nomatch hz) (by decide) (by decide) w0 (va_Nw.use rfl (hCa _ (by decide +kernel))) h1 h2 h3 ?_
      refine lv_astore (lv' := [(4, .ref q9), (0, .ref th), (1, .int p1), (2, .int p2), (3, .int p3)]) hx hb dL_pitch_10 hl (by decide) rfl (fun ls hl => ?_)
      refine lv_iconst (v := 1) hx hb dL_pitch_12 (by decide) ?_
      refine W.widen (k := 3) (n := 18) (Nat.le_of_ble_eq_true rfl) (Nat.le_of_ble_eq_true rfl) ?_
      exact z_wret (u := (K, L, c)) hx hb hr hlocks hC (Or.inr (Or.inl ⟨hq, rfl, rfl⟩)) dL_pitch_13
    · refine vx_catch (E := "java/lang/IllegalArgumentException") (name := "java/lang/IllegalArgumentException") hown [⟨0, 7, 10, 13⟩] ⟨0, 7, 14, 15⟩ [⟨0, 7, 18, 17⟩] (htab.trans rfl) (fun z hz => by simp only [List.mem_cons, List.not_mem_nil, or_false] at hz; subst hz; exact Or.inr ⟨by decide, _, w0, hNc "java/lang/IllegalArgumentException" (by decide +kernel) "java/lang/IndexOutOfBoundsException" (by decide +kernel) (by decide +kernel)⟩) (by decide) (by decide) w1 (va_Nw.use rfl (hCa _ (by decide +kernel))) h1 h2 h3 ?_
      refine lv_astore (lv' := [(4, .ref q9), (0, .ref th), (1, .int p1), (2, .int p2), (3, .int p3)]) hx hb dL_pitch_14 hl (by decide) rfl (fun ls hl => ?_)
      refine lv_iconst (v := 2) hx hb dL_pitch_16 (by decide) ?_
      refine W.widen (k := 3) (n := 18) (Nat.le_of_ble_eq_true rfl) (Nat.le_of_ble_eq_true rfl) ?_
      exact z_wret (u := (K, L, c)) hx hb hr hlocks hC (Or.inr (Or.inr (Or.inl ⟨hq, rfl, rfl⟩))) dL_pitch_17
    · refine vx_catch (E := "java/lang/IllegalStateException") (name := "java/lang/IllegalStateException") hown [⟨0, 7, 10, 13⟩, ⟨0, 7, 14, 15⟩] ⟨0, 7, 18, 17⟩ [] (htab.trans rfl) (fun z hz => by simp only [List.mem_cons, List.not_mem_nil, or_false] at hz; rcases hz with rfl | rfl; exact Or.inr ⟨by decide, _, w0, hNc "java/lang/IllegalStateException" (by decide +kernel) "java/lang/IndexOutOfBoundsException" (by decide +kernel) (by decide +kernel)⟩; exact Or.inr ⟨by decide, _, w1, hNc "java/lang/IllegalStateException" (by decide +kernel) "java/lang/IllegalArgumentException" (by decide +kernel) (by decide +kernel)⟩) (by decide) (by decide) w2 (va_Nw.use rfl (hCa _ (by decide +kernel))) h1 h2 h3 ?_
      refine lv_astore (lv' := [(4, .ref q9), (0, .ref th), (1, .int p1), (2, .int p2), (3, .int p3)]) hx hb dL_pitch_18 hl (by decide) rfl (fun ls hl => ?_)
      refine lv_iconst (v := 3) hx hb dL_pitch_20 (by decide) ?_
      refine W.widen (k := 3) (n := 18) (Nat.le_of_ble_eq_true rfl) (Nat.le_of_ble_eq_true rfl) ?_
      exact z_wret (u := (K, L, c)) hx hb hr hlocks hC (Or.inr (Or.inr (Or.inr (⟨hq, rfl, rfl⟩)))) dL_pitch_21
  · refine lv_goto (tgt := 22) hx hb dL_pitch_7 (by decide) ?_
    refine lv_iconst (v := 0) hx hb dL_pitch_22 (by decide) ?_
    refine W.widen (k := 3) (n := 18) (Nat.le_of_ble_eq_true rfl) (Nat.le_of_ble_eq_true rfl) ?_
    exact z_wret (u := (K, L, c1)) hx hb hr hlocks hC (Or.inl ⟨c1, hq, rfl, rfl⟩) dL_pitch_23
set_option maxRecDepth 100000 in
set_option maxHeartbeats 4000000 in
theorem c_L_months {l : Launch} {D : va_G} {cy : Nat → ClassId} {base : Nat} {st : Nat → Nat} {K : Nat → Nat} {L : List Nat} {c r : zS} {o : Int64} {z : Nat} (th : Nat) (p1 : Int32) (p2 : Int32) {res : zS ⊕ Nat} (hk_th : K th = 6) (hst : l.stackTraces = false) (hf : f_X6_months K z c th p1 p2 = some res) (herr : ∀ x, res = .inr x → x = 1 ∨ x = 2 ∨ x = 3) : Met l yL_months wsL_months ({ frames := 8, cells := 3, slots := 18, locals := 145 }) (va_Pc [.ref th, .int p1, .int p2] (zGW zts0 zns0 D cy base st K L (c, r, o))) (va_Qi (fun (rr : Int32) (u : zU) => (∃ c1 : zS, res = .inl c1 ∧ rr = 0 ∧ u = (K, L, c1)) ∨ (res = .inr 1 ∧ rr = 1 ∧ u = (K, L, c)) ∨ (res = .inr 2 ∧ rr = 2 ∧ u = (K, L, c)) ∨ (res = .inr 3 ∧ rr = 3 ∧ u = (K, L, c))) (fun u => zB D cy base u.1 u.2.1 (u.2.2, r, o)) (zA base)) 3 18 (zA base) := by
  refine va_MetW (cc := cL_months) (maxL := 4) (ret := (some .int)) (hh := [(0, 6, 9, 13), (0, 6, 12, 15), (0, 6, 15, 17)]) (by decide) rfl ?_
  intro p e s m args below meth cd s₁ B hml hv
  obtain ⟨rfl, hG⟩ := hv
  have hx := B.exec
  have hb := B.bytes
  have hr := B.returns
  have hts := atoms_spec (ws := wsL_months) B.pre
  have htab := vx_table (x := yL_months) B (hts _ List.mem_cons_self)
  have hown : s.vm.findClass RL = some m.cls := findClass_of_methodNamed B.named
  have hlocks := B.notSynchronized
  have hC := hG.enter
  have hK := hG.2.2.2.1
  have hCa := hG.2.2.2.2.2.2.2.2.2.1
  have hNc := hG.2.2.2.2.2.2.2.2.2.2.1
  have w0 := hts (.classLink RL 13 "java/lang/IndexOutOfBoundsException") (by decide +kernel)
  have w1 := hts (.classLink RL 15 "java/lang/IllegalArgumentException") (by decide +kernel)
  have w2 := hts (.classLink RL 17 "java/lang/IllegalStateException") (by decide +kernel)
  have hl := lv_entry ([.ref th, .int p1, .int p2]) (n := 4) (Nat.le_of_ble_eq_true rfl)
  rw [lg_entry_eq]
  generalize (lg_sl ([.ref th, .int p1, .int p2]) ++ List.replicate (4 - (lg_sl ([.ref th, .int p1, .int p2])).length) Slot.unset).toArray = ls at hl ⊢
  have hl : lv_has ls 4 [(0, .ref th), (1, .int p1), (2, .int p2)] := hl
  refine lv_aload_n hx hb dL_months_0 rfl (lv_at hl 0 rfl) ?_
  refine lv_iload_n hx hb dL_months_1 rfl (lv_at hl 1 rfl) ?_
  refine lv_iload_n hx hb dL_months_2 rfl (lv_at hl 2 rfl) ?_
  refine z_xcvW (z_rxV (As := [.int p1, .int p2]) (rest := []) ⟨hx, hb, hml, hown, hts⟩ (c_X6_months (l := l) (D := D) (cy := cy) (base := base) (st := st) (K := K) (L := L) (c := c) (r := r) (o := o) (z := z) th p1 p2 hk_th hst hf) (cwV 2 hts gL_months_X6_months rfl rfl rfl (by decide +kernel) ⟨(Nat.le_of_ble_eq_true rfl), (Nat.le_of_ble_eq_true rfl)⟩) hG hC (zC.recv (ci := 6) (fs := _) hK hC (by rw [hk_th]; decide) (by rw [hk_th]; exact zc_6 cy _ _) rfl) rfl hl.1 rfl (lv_room (Nat.le_of_ble_eq_true rfl)) dL_months_3 ⟨(Nat.le_of_ble_eq_true rfl), (Nat.le_of_ble_eq_true rfl)⟩) hC (fun _ H locs q9 ce hq hC h1 h2 h3 => ?_) (fun c1 H locs hq hC => ?_)
  · rcases herr _ hq with rfl | rfl | rfl
    · refine vx_catch (E := "java/lang/IndexOutOfBoundsException") (name := "java/lang/IndexOutOfBoundsException") hown [] ⟨0, 6, 9, 13⟩ [⟨0, 6, 12, 15⟩, ⟨0, 6, 15, 17⟩] (htab.trans rfl) (fun z hz => nomatch hz) (by decide) (by decide) w0 (va_Nw.use rfl (hCa _ (by decide +kernel))) h1 h2 h3 ?_
      refine lv_astore_n (lv' := [(3, .ref q9), (0, .ref th), (1, .int p1), (2, .int p2)]) hx hb dL_months_9 rfl hl (by decide) rfl (fun ls hl => ?_)
      refine lv_iconst (v := 1) hx hb dL_months_10 (by decide) ?_
      refine W.widen (k := 3) (n := 18) (Nat.le_of_ble_eq_true rfl) (Nat.le_of_ble_eq_true rfl) ?_
      exact z_wret (u := (K, L, c)) hx hb hr hlocks hC (Or.inr (Or.inl ⟨hq, rfl, rfl⟩)) dL_months_11
    · refine vx_catch (E := "java/lang/IllegalArgumentException") (name := "java/lang/IllegalArgumentException") hown [⟨0, 6, 9, 13⟩] ⟨0, 6, 12, 15⟩ [⟨0, 6, 15, 17⟩] (htab.trans rfl) (fun z hz => by simp only [List.mem_cons, List.not_mem_nil, or_false] at hz; subst hz; exact Or.inr ⟨by decide, _, w0, hNc "java/lang/IllegalArgumentException" (by decide +kernel) "java/lang/IndexOutOfBoundsException" (by decide +kernel) (by decide +kernel)⟩) (by decide) (by decide) w1 (va_Nw.use rfl (hCa _ (by decide +kernel))) h1 h2 h3 ?_
      refine lv_astore_n (lv' := [(3, .ref q9), (0, .ref th), (1, .int p1), (2, .int p2)]) hx hb dL_months_12 rfl hl (by decide) rfl (fun ls hl => ?_)
      refine lv_iconst (v := 2) hx hb dL_months_13 (by decide) ?_
      refine W.widen (k := 3) (n := 18) (Nat.le_of_ble_eq_true rfl) (Nat.le_of_ble_eq_true rfl) ?_
      exact z_wret (u := (K, L, c)) hx hb hr hlocks hC (Or.inr (Or.inr (Or.inl ⟨hq, rfl, rfl⟩))) dL_months_14
    · refine vx_catch (E := "java/lang/IllegalStateException") (name := "java/lang/IllegalStateException") hown [⟨0, 6, 9, 13⟩, ⟨0, 6, 12, 15⟩] ⟨0, 6, 15, 17⟩ [] (htab.trans rfl) (fun z hz => by simp only [List.mem_cons, List.not_mem_nil, or_false] at hz; rcases hz with rfl | rfl; exact Or.inr ⟨by decide, _, w0, hNc "java/lang/IllegalStateException" (by decide +kernel) "java/lang/IndexOutOfBoundsException" (by decide +kernel) (by decide +kernel)⟩; exact Or.inr ⟨by decide, _, w1, hNc "java/lang/IllegalStateException" (by decide +kernel) "java/lang/IllegalArgumentException" (by decide +kernel) (by decide +kernel)⟩) (by decide) (by decide) w2 (va_Nw.use rfl (hCa _ (by decide +kernel))) h1 h2 h3 ?_
      refine lv_astore_n (lv' := [(3, .ref q9), (0, .ref th), (1, .int p1), (2, .int p2)]) hx hb dL_months_15 rfl hl (by decide) rfl (fun ls hl => ?_)
      refine lv_iconst (v := 3) hx hb dL_months_16 (by decide) ?_
      refine W.widen (k := 3) (n := 18) (Nat.le_of_ble_eq_true rfl) (Nat.le_of_ble_eq_true rfl) ?_
      exact z_wret (u := (K, L, c)) hx hb hr hlocks hC (Or.inr (Or.inr (Or.inr (⟨hq, rfl, rfl⟩)))) dL_months_17
  · refine lv_goto (tgt := 18) hx hb dL_months_6 (by decide) ?_
    refine lv_iconst (v := 0) hx hb dL_months_18 (by decide) ?_
    refine W.widen (k := 3) (n := 18) (Nat.le_of_ble_eq_true rfl) (Nat.le_of_ble_eq_true rfl) ?_
    exact z_wret (u := (K, L, c1)) hx hb hr hlocks hC (Or.inl ⟨c1, hq, rfl, rfl⟩) dL_months_19
set_option maxRecDepth 100000 in
set_option maxHeartbeats 4000000 in
theorem c_L_wish {l : Launch} {D : va_G} {cy : Nat → ClassId} {base : Nat} {st : Nat → Nat} {K : Nat → Nat} {L : List Nat} {c r : zS} {o : Int64} {z : Nat} (th : Nat) (p1 : Int32) (p2 : Int32) (p3 : Int32) (ou : Nat) {res : (Int32 × zS) ⊕ Nat} (hk_th : K th = 6) (hk_ou : K ou = 17) (hst : l.stackTraces = false) (hf : f_X6_wish K z c th p1 p2 p3 = some res) (herr : ∀ x, res = .inr x → x = 1) : Met l yL_wish wsL_wish ({ frames := 8, cells := 1, slots := 6, locals := 145 }) (va_Pc [.ref th, .int p1, .int p2, .int p3, .ref ou] (zGW zts0 zns0 D cy base st K L (c, r, o))) (va_Qi (fun (rr : Int32) (u : zU) => (∃ (x : Int32) (c1 : zS), res = .inl (x, c1) ∧ rr = 0 ∧ u = (K, L, zul c1 170 ou 0 (Int32.toInt64 x))) ∨ (res = .inr 1 ∧ rr = 1 ∧ u = (K, L, c))) (fun u => zB D cy base u.1 u.2.1 (u.2.2, r, o)) (zA base)) 1 6 (zA base) := by
  refine va_MetW (cc := cL_wish) (maxL := 6) (ret := (some .int)) (hh := [(0, 12, 15, 13)]) (by decide) rfl ?_
  intro p e s m args below meth cd s₁ B hml hv
  obtain ⟨rfl, hG⟩ := hv
  have hx := B.exec
  have hb := B.bytes
  have hr := B.returns
  have hts := atoms_spec (ws := wsL_wish) B.pre
  have htab := vx_table (x := yL_wish) B (hts _ List.mem_cons_self)
  have hown : s.vm.findClass RL = some m.cls := findClass_of_methodNamed B.named
  have hlocks := B.notSynchronized
  have hC := hG.enter
  have hK := hG.2.2.2.1
  have hCa := hG.2.2.2.2.2.2.2.2.2.1
  have hNc := hG.2.2.2.2.2.2.2.2.2.2.1
  have w0 := hts (.classLink RL 13 "java/lang/IndexOutOfBoundsException") (by decide +kernel)
  have hl := lv_entry ([.ref th, .int p1, .int p2, .int p3, .ref ou]) (n := 6) (Nat.le_of_ble_eq_true rfl)
  rw [lg_entry_eq]
  generalize (lg_sl ([.ref th, .int p1, .int p2, .int p3, .ref ou]) ++ List.replicate (6 - (lg_sl ([.ref th, .int p1, .int p2, .int p3, .ref ou])).length) Slot.unset).toArray = ls at hl ⊢
  have hl : lv_has ls 6 [(0, .ref th), (1, .int p1), (2, .int p2), (3, .int p3), (4, .ref ou)] := hl
  refine lv_aload hx hb dL_wish_0 (lv_at hl 4 rfl) ?_
  refine lv_iconst (v := 0) hx hb dL_wish_2 (by decide) ?_
  refine lv_aload_n hx hb dL_wish_3 rfl (lv_at hl 0 rfl) ?_
  refine lv_iload_n hx hb dL_wish_4 rfl (lv_at hl 1 rfl) ?_
  refine lv_iload_n hx hb dL_wish_5 rfl (lv_at hl 2 rfl) ?_
  refine lv_iload_n hx hb dL_wish_6 rfl (lv_at hl 3 rfl) ?_
  refine z_xciW (z_rxV (As := [.int p1, .int p2, .int p3]) (rest := [.int 0, .ref ou]) ⟨hx, hb, hml, hown, hts⟩ (c_X6_wish (l := l) (D := D) (cy := cy) (base := base) (st := st) (K := K) (L := L) (c := c) (r := r) (o := o) (z := z) th p1 p2 p3 hk_th hst hf) (cwV 3 hts gL_wish_X6_wish rfl rfl rfl (by decide +kernel) ⟨(Nat.le_of_ble_eq_true rfl), (Nat.le_of_ble_eq_true rfl)⟩) hG hC (zC.recv (ci := 6) (fs := _) hK hC (by rw [hk_th]; decide) (by rw [hk_th]; exact zc_6 cy _ _) rfl) rfl hl.1 rfl (lv_room (Nat.le_of_ble_eq_true rfl)) dL_wish_7 ⟨(Nat.le_of_ble_eq_true rfl), (Nat.le_of_ble_eq_true rfl)⟩) hC (fun _ H locs q9 ce hq hC h1 h2 h3 => ?_) (fun x c1 H locs hq hC => ?_)
  · have e1 := herr _ hq
    subst e1
    refine vx_catch (E := "java/lang/IndexOutOfBoundsException") (name := "java/lang/IndexOutOfBoundsException") hown [] ⟨0, 12, 15, 13⟩ [] (htab.trans rfl) (fun z hz => nomatch hz) (by decide) (by decide) w0 (va_Nw.use rfl (hCa _ (by decide +kernel))) h1 h2 h3 ?_
    refine lv_astore (lv' := [(5, .ref q9), (0, .ref th), (1, .int p1), (2, .int p2), (3, .int p3), (4, .ref ou)]) hx hb dL_wish_15 hl (by decide) rfl (fun ls hl => ?_)
    refine lv_iconst (v := 1) hx hb dL_wish_17 (by decide) ?_
    refine W.widen (k := 1) (n := 6) (Nat.le_of_ble_eq_true rfl) (Nat.le_of_ble_eq_true rfl) ?_
    exact z_wret (u := (K, L, c)) hx hb hr hlocks hC (Or.inr (⟨hq, rfl, rfl⟩)) dL_wish_18
  · refine lv_i2l (v := Int32.toInt64 x) hx hb dL_wish_10 rfl ?_
    refine xp_17 (c1 := zul c1 170 ou 0 (Int32.toInt64 x)) hx hb hK hC hk_ou (by unfold vp_in; decide) rfl dL_wish_11 (fun H locs hC => ?_)
    refine lv_goto (tgt := 19) hx hb dL_wish_12 (by decide) ?_
    refine lv_iconst (v := 0) hx hb dL_wish_19 (by decide) ?_
    refine W.widen (k := 1) (n := 6) (Nat.le_of_ble_eq_true rfl) (Nat.le_of_ble_eq_true rfl) ?_
    exact z_wret (u := (K, L, zul c1 170 ou 0 (Int32.toInt64 x))) hx hb hr hlocks hC (Or.inl ⟨x, c1, hq, rfl, rfl⟩) dL_wish_20
set_option maxRecDepth 100000 in
set_option maxHeartbeats 4000000 in
theorem c_L_wishes {l : Launch} {D : va_G} {cy : Nat → ClassId} {base : Nat} {st : Nat → Nat} {K : Nat → Nat} {L : List Nat} {c r : zS} {o : Int64} {z : Nat} (th : Nat) (p1 : Int32) (p2 : Int32) {res : zS ⊕ Nat} (hk_th : K th = 6) (hst : l.stackTraces = false) (hf : f_X6_wishes K z c th p1 p2 = some res) (herr : ∀ x, res = .inr x → x = 1) : Met l yL_wishes wsL_wishes ({ frames := 8, cells := 1, slots := 6, locals := 144 }) (va_Pc [.ref th, .int p1, .int p2] (zGW zts0 zns0 D cy base st K L (c, r, o))) (va_Qi (fun (rr : Int32) (u : zU) => (∃ c1 : zS, res = .inl c1 ∧ rr = 0 ∧ u = (K, L, c1)) ∨ (res = .inr 1 ∧ rr = 1 ∧ u = (K, L, c))) (fun u => zB D cy base u.1 u.2.1 (u.2.2, r, o)) (zA base)) 1 6 (zA base) := by
  refine va_MetW (cc := cL_wishes) (maxL := 4) (ret := (some .int)) (hh := [(0, 6, 9, 13)]) (by decide) rfl ?_
  intro p e s m args below meth cd s₁ B hml hv
  obtain ⟨rfl, hG⟩ := hv
  have hx := B.exec
  have hb := B.bytes
  have hr := B.returns
  have hts := atoms_spec (ws := wsL_wishes) B.pre
  have htab := vx_table (x := yL_wishes) B (hts _ List.mem_cons_self)
  have hown : s.vm.findClass RL = some m.cls := findClass_of_methodNamed B.named
  have hlocks := B.notSynchronized
  have hC := hG.enter
  have hK := hG.2.2.2.1
  have hCa := hG.2.2.2.2.2.2.2.2.2.1
  have hNc := hG.2.2.2.2.2.2.2.2.2.2.1
  have w0 := hts (.classLink RL 13 "java/lang/IndexOutOfBoundsException") (by decide +kernel)
  have hl := lv_entry ([.ref th, .int p1, .int p2]) (n := 4) (Nat.le_of_ble_eq_true rfl)
  rw [lg_entry_eq]
  generalize (lg_sl ([.ref th, .int p1, .int p2]) ++ List.replicate (4 - (lg_sl ([.ref th, .int p1, .int p2])).length) Slot.unset).toArray = ls at hl ⊢
  have hl : lv_has ls 4 [(0, .ref th), (1, .int p1), (2, .int p2)] := hl
  refine lv_aload_n hx hb dL_wishes_0 rfl (lv_at hl 0 rfl) ?_
  refine lv_iload_n hx hb dL_wishes_1 rfl (lv_at hl 1 rfl) ?_
  refine lv_iload_n hx hb dL_wishes_2 rfl (lv_at hl 2 rfl) ?_
  refine z_xcvW (z_rxV (As := [.int p1, .int p2]) (rest := []) ⟨hx, hb, hml, hown, hts⟩ (c_X6_wishes (l := l) (D := D) (cy := cy) (base := base) (st := st) (K := K) (L := L) (c := c) (r := r) (o := o) (z := z) th p1 p2 hk_th hst hf) (cwV 2 hts gL_wishes_X6_wishes rfl rfl rfl (by decide +kernel) ⟨(Nat.le_of_ble_eq_true rfl), (Nat.le_of_ble_eq_true rfl)⟩) hG hC (zC.recv (ci := 6) (fs := _) hK hC (by rw [hk_th]; decide) (by rw [hk_th]; exact zc_6 cy _ _) rfl) rfl hl.1 rfl (lv_room (Nat.le_of_ble_eq_true rfl)) dL_wishes_3 ⟨(Nat.le_of_ble_eq_true rfl), (Nat.le_of_ble_eq_true rfl)⟩) hC (fun _ H locs q9 ce hq hC h1 h2 h3 => ?_) (fun c1 H locs hq hC => ?_)
  · have e1 := herr _ hq
    subst e1
    refine vx_catch (E := "java/lang/IndexOutOfBoundsException") (name := "java/lang/IndexOutOfBoundsException") hown [] ⟨0, 6, 9, 13⟩ [] (htab.trans rfl) (fun z hz => nomatch hz) (by decide) (by decide) w0 (va_Nw.use rfl (hCa _ (by decide +kernel))) h1 h2 h3 ?_
    refine lv_astore_n (lv' := [(3, .ref q9), (0, .ref th), (1, .int p1), (2, .int p2)]) hx hb dL_wishes_9 rfl hl (by decide) rfl (fun ls hl => ?_)
    refine lv_iconst (v := 1) hx hb dL_wishes_10 (by decide) ?_
    refine W.widen (k := 1) (n := 6) (Nat.le_of_ble_eq_true rfl) (Nat.le_of_ble_eq_true rfl) ?_
    exact z_wret (u := (K, L, c)) hx hb hr hlocks hC (Or.inr (⟨hq, rfl, rfl⟩)) dL_wishes_11
  · refine lv_goto (tgt := 12) hx hb dL_wishes_6 (by decide) ?_
    refine lv_iconst (v := 0) hx hb dL_wishes_12 (by decide) ?_
    refine W.widen (k := 1) (n := 6) (Nat.le_of_ble_eq_true rfl) (Nat.le_of_ble_eq_true rfl) ?_
    exact z_wret (u := (K, L, c1)) hx hb hr hlocks hC (Or.inl ⟨c1, hq, rfl, rfl⟩) dL_wishes_13
set_option maxRecDepth 100000 in
set_option maxHeartbeats 4000000 in
theorem c_L_want {l : Launch} {D : va_G} {cy : Nat → ClassId} {base : Nat} {st : Nat → Nat} {K : Nat → Nat} {L : List Nat} {c r : zS} {o : Int64} {z : Nat} (th : Nat) (p1 : Int32) (p2 : Int32) {res : zS ⊕ Nat} (hk_th : K th = 6) (hst : l.stackTraces = false) (hf : f_X6_want K z c th p1 p2 = some res) (herr : ∀ x, res = .inr x → x = 1) : Met l yL_want wsL_want ({ frames := 8, cells := 1, slots := 6, locals := 144 }) (va_Pc [.ref th, .int p1, .int p2] (zGW zts0 zns0 D cy base st K L (c, r, o))) (va_Qi (fun (rr : Int32) (u : zU) => (∃ c1 : zS, res = .inl c1 ∧ rr = 0 ∧ u = (K, L, c1)) ∨ (res = .inr 1 ∧ rr = 1 ∧ u = (K, L, c))) (fun u => zB D cy base u.1 u.2.1 (u.2.2, r, o)) (zA base)) 1 6 (zA base) := by
  refine va_MetW (cc := cL_want) (maxL := 4) (ret := (some .int)) (hh := [(0, 6, 9, 13)]) (by decide) rfl ?_
  intro p e s m args below meth cd s₁ B hml hv
  obtain ⟨rfl, hG⟩ := hv
  have hx := B.exec
  have hb := B.bytes
  have hr := B.returns
  have hts := atoms_spec (ws := wsL_want) B.pre
  have htab := vx_table (x := yL_want) B (hts _ List.mem_cons_self)
  have hown : s.vm.findClass RL = some m.cls := findClass_of_methodNamed B.named
  have hlocks := B.notSynchronized
  have hC := hG.enter
  have hK := hG.2.2.2.1
  have hCa := hG.2.2.2.2.2.2.2.2.2.1
  have hNc := hG.2.2.2.2.2.2.2.2.2.2.1
  have w0 := hts (.classLink RL 13 "java/lang/IndexOutOfBoundsException") (by decide +kernel)
  have hl := lv_entry ([.ref th, .int p1, .int p2]) (n := 4) (Nat.le_of_ble_eq_true rfl)
  rw [lg_entry_eq]
  generalize (lg_sl ([.ref th, .int p1, .int p2]) ++ List.replicate (4 - (lg_sl ([.ref th, .int p1, .int p2])).length) Slot.unset).toArray = ls at hl ⊢
  have hl : lv_has ls 4 [(0, .ref th), (1, .int p1), (2, .int p2)] := hl
  refine lv_aload_n hx hb dL_want_0 rfl (lv_at hl 0 rfl) ?_
  refine lv_iload_n hx hb dL_want_1 rfl (lv_at hl 1 rfl) ?_
  refine lv_iload_n hx hb dL_want_2 rfl (lv_at hl 2 rfl) ?_
  refine z_xcvW (z_rxV (As := [.int p1, .int p2]) (rest := []) ⟨hx, hb, hml, hown, hts⟩ (c_X6_want (l := l) (D := D) (cy := cy) (base := base) (st := st) (K := K) (L := L) (c := c) (r := r) (o := o) (z := z) th p1 p2 hk_th hst hf) (cwV 2 hts gL_want_X6_want rfl rfl rfl (by decide +kernel) ⟨(Nat.le_of_ble_eq_true rfl), (Nat.le_of_ble_eq_true rfl)⟩) hG hC (zC.recv (ci := 6) (fs := _) hK hC (by rw [hk_th]; decide) (by rw [hk_th]; exact zc_6 cy _ _) rfl) rfl hl.1 rfl (lv_room (Nat.le_of_ble_eq_true rfl)) dL_want_3 ⟨(Nat.le_of_ble_eq_true rfl), (Nat.le_of_ble_eq_true rfl)⟩) hC (fun _ H locs q9 ce hq hC h1 h2 h3 => ?_) (fun c1 H locs hq hC => ?_)
  · have e1 := herr _ hq
    subst e1
    refine vx_catch (E := "java/lang/IndexOutOfBoundsException") (name := "java/lang/IndexOutOfBoundsException") hown [] ⟨0, 6, 9, 13⟩ [] (htab.trans rfl) (fun z hz => nomatch hz) (by decide) (by decide) w0 (va_Nw.use rfl (hCa _ (by decide +kernel))) h1 h2 h3 ?_
    refine lv_astore_n (lv' := [(3, .ref q9), (0, .ref th), (1, .int p1), (2, .int p2)]) hx hb dL_want_9 rfl hl (by decide) rfl (fun ls hl => ?_)
    refine lv_iconst (v := 1) hx hb dL_want_10 (by decide) ?_
    refine W.widen (k := 1) (n := 6) (Nat.le_of_ble_eq_true rfl) (Nat.le_of_ble_eq_true rfl) ?_
    exact z_wret (u := (K, L, c)) hx hb hr hlocks hC (Or.inr (⟨hq, rfl, rfl⟩)) dL_want_11
  · refine lv_goto (tgt := 12) hx hb dL_want_6 (by decide) ?_
    refine lv_iconst (v := 0) hx hb dL_want_12 (by decide) ?_
    refine W.widen (k := 1) (n := 6) (Nat.le_of_ble_eq_true rfl) (Nat.le_of_ble_eq_true rfl) ?_
    exact z_wret (u := (K, L, c1)) hx hb hr hlocks hC (Or.inl ⟨c1, hq, rfl, rfl⟩) dL_want_13
set_option maxRecDepth 100000 in
set_option maxHeartbeats 4000000 in
theorem c_L_day {l : Launch} {D : va_G} {cy : Nat → ClassId} {base : Nat} {st : Nat → Nat} {K : Nat → Nat} {L : List Nat} {c r : zS} {o : Int64} {z : Nat} (th : Nat) (p1 : Int32) (ou : Nat) {res : (Int32 × zS) ⊕ Nat} (hk_th : K th = 6) (hk_ou : K ou = 17) (hst : l.stackTraces = false) (hf : f_X6_day K z c th p1 = some res) (herr : ∀ x, res = .inr x → x = 2 ∨ x = 3) : Met l yL_day wsL_day ({ frames := 8, cells := 2, slots := 12, locals := 144 }) (va_Pc [.ref th, .int p1, .ref ou] (zGW zts0 zns0 D cy base st K L (c, r, o))) (va_Qi (fun (rr : Int32) (u : zU) => (∃ (x : Int32) (c1 : zS), res = .inl (x, c1) ∧ rr = 0 ∧ u = (K, L, zul c1 170 ou 0 (Int32.toInt64 x))) ∨ (res = .inr 2 ∧ rr = 1 ∧ u = (K, L, c)) ∨ (res = .inr 3 ∧ rr = 2 ∧ u = (K, L, c))) (fun u => zB D cy base u.1 u.2.1 (u.2.2, r, o)) (zA base)) 2 12 (zA base) := by
  refine va_MetW (cc := cL_day) (maxL := 4) (ret := (some .int)) (hh := [(0, 9, 12, 15), (0, 9, 15, 17)]) (by decide) rfl ?_
  intro p e s m args below meth cd s₁ B hml hv
  obtain ⟨rfl, hG⟩ := hv
  have hx := B.exec
  have hb := B.bytes
  have hr := B.returns
  have hts := atoms_spec (ws := wsL_day) B.pre
  have htab := vx_table (x := yL_day) B (hts _ List.mem_cons_self)
  have hown : s.vm.findClass RL = some m.cls := findClass_of_methodNamed B.named
  have hlocks := B.notSynchronized
  have hC := hG.enter
  have hK := hG.2.2.2.1
  have hCa := hG.2.2.2.2.2.2.2.2.2.1
  have hNc := hG.2.2.2.2.2.2.2.2.2.2.1
  have w0 := hts (.classLink RL 15 "java/lang/IllegalArgumentException") (by decide +kernel)
  have w1 := hts (.classLink RL 17 "java/lang/IllegalStateException") (by decide +kernel)
  have hl := lv_entry ([.ref th, .int p1, .ref ou]) (n := 4) (Nat.le_of_ble_eq_true rfl)
  rw [lg_entry_eq]
  generalize (lg_sl ([.ref th, .int p1, .ref ou]) ++ List.replicate (4 - (lg_sl ([.ref th, .int p1, .ref ou])).length) Slot.unset).toArray = ls at hl ⊢
  have hl : lv_has ls 4 [(0, .ref th), (1, .int p1), (2, .ref ou)] := hl
  refine lv_aload_n hx hb dL_day_0 rfl (lv_at hl 2 rfl) ?_
  refine lv_iconst (v := 0) hx hb dL_day_1 (by decide) ?_
  refine lv_aload_n hx hb dL_day_2 rfl (lv_at hl 0 rfl) ?_
  refine lv_iload_n hx hb dL_day_3 rfl (lv_at hl 1 rfl) ?_
  refine z_xciW (z_rxV (As := [.int p1]) (rest := [.int 0, .ref ou]) ⟨hx, hb, hml, hown, hts⟩ (c_X6_day (l := l) (D := D) (cy := cy) (base := base) (st := st) (K := K) (L := L) (c := c) (r := r) (o := o) (z := z) th p1 hk_th hst hf) (cwV 1 hts gL_day_X6_day rfl rfl rfl (by decide +kernel) ⟨(Nat.le_of_ble_eq_true rfl), (Nat.le_of_ble_eq_true rfl)⟩) hG hC (zC.recv (ci := 6) (fs := _) hK hC (by rw [hk_th]; decide) (by rw [hk_th]; exact zc_6 cy _ _) rfl) rfl hl.1 rfl (lv_room (Nat.le_of_ble_eq_true rfl)) dL_day_4 ⟨(Nat.le_of_ble_eq_true rfl), (Nat.le_of_ble_eq_true rfl)⟩) hC (fun _ H locs q9 ce hq hC h1 h2 h3 => ?_) (fun x c1 H locs hq hC => ?_)
  · rcases herr _ hq with rfl | rfl
    · refine vx_catch (E := "java/lang/IllegalArgumentException") (name := "java/lang/IllegalArgumentException") hown [] ⟨0, 9, 12, 15⟩ [⟨0, 9, 15, 17⟩] (htab.trans rfl) (fun z hz => nomatch hz) (by decide) (by decide) w0 (va_Nw.use rfl (hCa _ (by decide +kernel))) h1 h2 h3 ?_
      refine lv_astore_n (lv' := [(3, .ref q9), (0, .ref th), (1, .int p1), (2, .ref ou)]) hx hb dL_day_12 rfl hl (by decide) rfl (fun ls hl => ?_)
      refine lv_iconst (v := 1) hx hb dL_day_13 (by decide) ?_
      refine W.widen (k := 2) (n := 12) (Nat.le_of_ble_eq_true rfl) (Nat.le_of_ble_eq_true rfl) ?_
      exact z_wret (u := (K, L, c)) hx hb hr hlocks hC (Or.inr (Or.inl ⟨hq, rfl, rfl⟩)) dL_day_14
    · refine vx_catch (E := "java/lang/IllegalStateException") (name := "java/lang/IllegalStateException") hown [⟨0, 9, 12, 15⟩] ⟨0, 9, 15, 17⟩ [] (htab.trans rfl) (fun z hz => by simp only [List.mem_cons, List.not_mem_nil, or_false] at hz; subst hz; exact Or.inr ⟨by decide, _, w0, hNc "java/lang/IllegalStateException" (by decide +kernel) "java/lang/IllegalArgumentException" (by decide +kernel) (by decide +kernel)⟩) (by decide) (by decide) w1 (va_Nw.use rfl (hCa _ (by decide +kernel))) h1 h2 h3 ?_
      refine lv_astore_n (lv' := [(3, .ref q9), (0, .ref th), (1, .int p1), (2, .ref ou)]) hx hb dL_day_15 rfl hl (by decide) rfl (fun ls hl => ?_)
      refine lv_iconst (v := 2) hx hb dL_day_16 (by decide) ?_
      refine W.widen (k := 2) (n := 12) (Nat.le_of_ble_eq_true rfl) (Nat.le_of_ble_eq_true rfl) ?_
      exact z_wret (u := (K, L, c)) hx hb hr hlocks hC (Or.inr (Or.inr (⟨hq, rfl, rfl⟩))) dL_day_17
  · refine lv_i2l (v := Int32.toInt64 x) hx hb dL_day_7 rfl ?_
    refine xp_17 (c1 := zul c1 170 ou 0 (Int32.toInt64 x)) hx hb hK hC hk_ou (by unfold vp_in; decide) rfl dL_day_8 (fun H locs hC => ?_)
    refine lv_goto (tgt := 18) hx hb dL_day_9 (by decide) ?_
    refine lv_iconst (v := 0) hx hb dL_day_18 (by decide) ?_
    refine W.widen (k := 2) (n := 12) (Nat.le_of_ble_eq_true rfl) (Nat.le_of_ble_eq_true rfl) ?_
    exact z_wret (u := (K, L, zul c1 170 ou 0 (Int32.toInt64 x))) hx hb hr hlocks hC (Or.inl ⟨x, c1, hq, rfl, rfl⟩) dL_day_19
set_option maxRecDepth 100000 in
set_option maxHeartbeats 4000000 in
theorem c_L_there {l : Launch} {D : va_G} {cy : Nat → ClassId} {base : Nat} {st : Nat → Nat} {K : Nat → Nat} {L : List Nat} {c r : zS} {o : Int64} {z : Nat} (th : Nat) (p1 : Int32) (ou : Nat) {res : (Int32 × zS) ⊕ Nat} (hk_th : K th = 6) (hk_ou : K ou = 17) (hst : l.stackTraces = false) (hf : f_X6_there K z c th p1 = some res) (herr : ∀ x, res = .inr x → x = 1 ∨ x = 3) : Met l yL_there wsL_there ({ frames := 8, cells := 2, slots := 12, locals := 144 }) (va_Pc [.ref th, .int p1, .ref ou] (zGW zts0 zns0 D cy base st K L (c, r, o))) (va_Qi (fun (rr : Int32) (u : zU) => (∃ (x : Int32) (c1 : zS), res = .inl (x, c1) ∧ rr = 0 ∧ u = (K, L, zul c1 170 ou 0 (if x = 0 then 0 else 1))) ∨ (res = .inr 1 ∧ rr = 1 ∧ u = (K, L, c)) ∨ (res = .inr 3 ∧ rr = 2 ∧ u = (K, L, c))) (fun u => zB D cy base u.1 u.2.1 (u.2.2, r, o)) (zA base)) 2 12 (zA base) := by
  refine va_MetW (cc := cL_there) (maxL := 4) (ret := (some .int)) (hh := [(0, 16, 19, 13), (0, 16, 22, 17)]) (by decide) rfl ?_
  intro p e s m args below meth cd s₁ B hml hv
  obtain ⟨rfl, hG⟩ := hv
  have hx := B.exec
  have hb := B.bytes
  have hr := B.returns
  have hts := atoms_spec (ws := wsL_there) B.pre
  have htab := vx_table (x := yL_there) B (hts _ List.mem_cons_self)
  have hown : s.vm.findClass RL = some m.cls := findClass_of_methodNamed B.named
  have hlocks := B.notSynchronized
  have hC := hG.enter
  have hK := hG.2.2.2.1
  have hCa := hG.2.2.2.2.2.2.2.2.2.1
  have hNc := hG.2.2.2.2.2.2.2.2.2.2.1
  have w0 := hts (.classLink RL 13 "java/lang/IndexOutOfBoundsException") (by decide +kernel)
  have w1 := hts (.classLink RL 17 "java/lang/IllegalStateException") (by decide +kernel)
  have hl := lv_entry ([.ref th, .int p1, .ref ou]) (n := 4) (Nat.le_of_ble_eq_true rfl)
  rw [lg_entry_eq]
  generalize (lg_sl ([.ref th, .int p1, .ref ou]) ++ List.replicate (4 - (lg_sl ([.ref th, .int p1, .ref ou])).length) Slot.unset).toArray = ls at hl ⊢
  have hl : lv_has ls 4 [(0, .ref th), (1, .int p1), (2, .ref ou)] := hl
  refine lv_aload_n hx hb dL_there_0 rfl (lv_at hl 2 rfl) ?_
  refine lv_iconst (v := 0) hx hb dL_there_1 (by decide) ?_
  refine lv_aload_n hx hb dL_there_2 rfl (lv_at hl 0 rfl) ?_
  refine lv_iload_n hx hb dL_there_3 rfl (lv_at hl 1 rfl) ?_
  refine z_xciW (z_rxV (As := [.int p1]) (rest := [.int 0, .ref ou]) ⟨hx, hb, hml, hown, hts⟩ (c_X6_there (l := l) (D := D) (cy := cy) (base := base) (st := st) (K := K) (L := L) (c := c) (r := r) (o := o) (z := z) th p1 hk_th hst hf) (cwV 1 hts gL_there_X6_there rfl rfl rfl (by decide +kernel) ⟨(Nat.le_of_ble_eq_true rfl), (Nat.le_of_ble_eq_true rfl)⟩) hG hC (zC.recv (ci := 6) (fs := _) hK hC (by rw [hk_th]; decide) (by rw [hk_th]; exact zc_6 cy _ _) rfl) rfl hl.1 rfl (lv_room (Nat.le_of_ble_eq_true rfl)) dL_there_4 ⟨(Nat.le_of_ble_eq_true rfl), (Nat.le_of_ble_eq_true rfl)⟩) hC (fun _ H locs q9 ce hq hC h1 h2 h3 => ?_) (fun x c1 H locs hq hC => ?_)
  · rcases herr _ hq with rfl | rfl
    · refine vx_catch (E := "java/lang/IndexOutOfBoundsException") (name := "java/lang/IndexOutOfBoundsException") hown [] ⟨0, 16, 19, 13⟩ [⟨0, 16, 22, 17⟩] (htab.trans rfl) (fun z hz => nomatch hz) (by decide) (by decide) w0 (va_Nw.use rfl (hCa _ (by decide +kernel))) h1 h2 h3 ?_
      refine lv_astore_n (lv' := [(3, .ref q9), (0, .ref th), (1, .int p1), (2, .ref ou)]) hx hb dL_there_19 rfl hl (by decide) rfl (fun ls hl => ?_)
      refine lv_iconst (v := 1) hx hb dL_there_20 (by decide) ?_
      refine W.widen (k := 2) (n := 12) (Nat.le_of_ble_eq_true rfl) (Nat.le_of_ble_eq_true rfl) ?_
      exact z_wret (u := (K, L, c)) hx hb hr hlocks hC (Or.inr (Or.inl ⟨hq, rfl, rfl⟩)) dL_there_21
    · refine vx_catch (E := "java/lang/IllegalStateException") (name := "java/lang/IllegalStateException") hown [⟨0, 16, 19, 13⟩] ⟨0, 16, 22, 17⟩ [] (htab.trans rfl) (fun z hz => by simp only [List.mem_cons, List.not_mem_nil, or_false] at hz; subst hz; exact Or.inr ⟨by decide, _, w0, hNc "java/lang/IllegalStateException" (by decide +kernel) "java/lang/IndexOutOfBoundsException" (by decide +kernel) (by decide +kernel)⟩) (by decide) (by decide) w1 (va_Nw.use rfl (hCa _ (by decide +kernel))) h1 h2 h3 ?_
      refine lv_astore_n (lv' := [(3, .ref q9), (0, .ref th), (1, .int p1), (2, .ref ou)]) hx hb dL_there_22 rfl hl (by decide) rfl (fun ls hl => ?_)
      refine lv_iconst (v := 2) hx hb dL_there_23 (by decide) ?_
      refine W.widen (k := 2) (n := 12) (Nat.le_of_ble_eq_true rfl) (Nat.le_of_ble_eq_true rfl) ?_
      exact z_wret (u := (K, L, c)) hx hb hr hlocks hC (Or.inr (Or.inr (⟨hq, rfl, rfl⟩))) dL_there_24
  · refine lv_if_eq (tgt := 14) hx hb dL_there_7 (by decide) (fun hx0 => ?_) (fun hx0 => ?_)
    · have hxx : (if x = 0 then (0 : Int64) else 1) = 0 := if_pos hx0
      refine lv_lconst (v := 0) hx hb dL_there_14 (by decide) ?_
      refine xp_17 (c1 := zul c1 170 ou 0 0) hx hb hK hC hk_ou (by unfold vp_in; decide) rfl dL_there_15 (fun H locs hC => ?_)
      refine lv_goto (tgt := 25) hx hb dL_there_16 (by decide) ?_
      refine lv_iconst (v := 0) hx hb dL_there_25 (by decide) ?_
      refine W.widen (k := 2) (n := 12) (Nat.le_of_ble_eq_true rfl) (Nat.le_of_ble_eq_true rfl) ?_
      exact z_wret (u := (K, L, zul c1 170 ou 0 0)) hx hb hr hlocks hC (Or.inl ⟨x, c1, hq, rfl, by rw [hxx]⟩) dL_there_26
    · have hxx : (if x = 0 then (0 : Int64) else 1) = 1 := if_neg hx0
      refine lv_lconst (v := 1) hx hb dL_there_10 (by decide) ?_
      refine lv_goto (tgt := 15) hx hb dL_there_11 (by decide) ?_
      refine xp_17 (c1 := zul c1 170 ou 0 1) hx hb hK hC hk_ou (by unfold vp_in; decide) rfl dL_there_15 (fun H locs hC => ?_)
      refine lv_goto (tgt := 25) hx hb dL_there_16 (by decide) ?_
      refine lv_iconst (v := 0) hx hb dL_there_25 (by decide) ?_
      refine W.widen (k := 2) (n := 12) (Nat.le_of_ble_eq_true rfl) (Nat.le_of_ble_eq_true rfl) ?_
      exact z_wret (u := (K, L, zul c1 170 ou 0 1)) hx hb hr hlocks hC (Or.inl ⟨x, c1, hq, rfl, by rw [hxx]⟩) dL_there_26
set_option maxRecDepth 100000 in
set_option maxHeartbeats 4000000 in
theorem c_L_word {l : Launch} {D : va_G} {cy : Nat → ClassId} {base : Nat} {st : Nat → Nat} {K : Nat → Nat} {L : List Nat} {c r : zS} {o : Int64} {z : Nat} (th : Nat) (p1 : Int32) (ou : Nat) {res : (Int32 × zS) ⊕ Nat} (hk_th : K th = 6) (hk_ou : K ou = 17) (hst : l.stackTraces = false) (hf : f_X6_word K z c th p1 = some res) (herr : ∀ x, res = .inr x → x = 1 ∨ x = 3) : Met l yL_word wsL_word ({ frames := 8, cells := 2, slots := 12, locals := 144 }) (va_Pc [.ref th, .int p1, .ref ou] (zGW zts0 zns0 D cy base st K L (c, r, o))) (va_Qi (fun (rr : Int32) (u : zU) => (∃ (x : Int32) (c1 : zS), res = .inl (x, c1) ∧ rr = 0 ∧ u = (K, L, zul c1 170 ou 0 (if x = 0 then 0 else 1))) ∨ (res = .inr 1 ∧ rr = 1 ∧ u = (K, L, c)) ∨ (res = .inr 3 ∧ rr = 2 ∧ u = (K, L, c))) (fun u => zB D cy base u.1 u.2.1 (u.2.2, r, o)) (zA base)) 2 12 (zA base) := by
  refine va_MetW (cc := cL_word) (maxL := 4) (ret := (some .int)) (hh := [(0, 16, 19, 13), (0, 16, 22, 17)]) (by decide) rfl ?_
  intro p e s m args below meth cd s₁ B hml hv
  obtain ⟨rfl, hG⟩ := hv
  have hx := B.exec
  have hb := B.bytes
  have hr := B.returns
  have hts := atoms_spec (ws := wsL_word) B.pre
  have htab := vx_table (x := yL_word) B (hts _ List.mem_cons_self)
  have hown : s.vm.findClass RL = some m.cls := findClass_of_methodNamed B.named
  have hlocks := B.notSynchronized
  have hC := hG.enter
  have hK := hG.2.2.2.1
  have hCa := hG.2.2.2.2.2.2.2.2.2.1
  have hNc := hG.2.2.2.2.2.2.2.2.2.2.1
  have w0 := hts (.classLink RL 13 "java/lang/IndexOutOfBoundsException") (by decide +kernel)
  have w1 := hts (.classLink RL 17 "java/lang/IllegalStateException") (by decide +kernel)
  have hl := lv_entry ([.ref th, .int p1, .ref ou]) (n := 4) (Nat.le_of_ble_eq_true rfl)
  rw [lg_entry_eq]
  generalize (lg_sl ([.ref th, .int p1, .ref ou]) ++ List.replicate (4 - (lg_sl ([.ref th, .int p1, .ref ou])).length) Slot.unset).toArray = ls at hl ⊢
  have hl : lv_has ls 4 [(0, .ref th), (1, .int p1), (2, .ref ou)] := hl
  refine lv_aload_n hx hb dL_word_0 rfl (lv_at hl 2 rfl) ?_
  refine lv_iconst (v := 0) hx hb dL_word_1 (by decide) ?_
  refine lv_aload_n hx hb dL_word_2 rfl (lv_at hl 0 rfl) ?_
  refine lv_iload_n hx hb dL_word_3 rfl (lv_at hl 1 rfl) ?_
  refine z_xciW (z_rxV (As := [.int p1]) (rest := [.int 0, .ref ou]) ⟨hx, hb, hml, hown, hts⟩ (c_X6_word (l := l) (D := D) (cy := cy) (base := base) (st := st) (K := K) (L := L) (c := c) (r := r) (o := o) (z := z) th p1 hk_th hst hf) (cwV 1 hts gL_word_X6_word rfl rfl rfl (by decide +kernel) ⟨(Nat.le_of_ble_eq_true rfl), (Nat.le_of_ble_eq_true rfl)⟩) hG hC (zC.recv (ci := 6) (fs := _) hK hC (by rw [hk_th]; decide) (by rw [hk_th]; exact zc_6 cy _ _) rfl) rfl hl.1 rfl (lv_room (Nat.le_of_ble_eq_true rfl)) dL_word_4 ⟨(Nat.le_of_ble_eq_true rfl), (Nat.le_of_ble_eq_true rfl)⟩) hC (fun _ H locs q9 ce hq hC h1 h2 h3 => ?_) (fun x c1 H locs hq hC => ?_)
  · rcases herr _ hq with rfl | rfl
    · refine vx_catch (E := "java/lang/IndexOutOfBoundsException") (name := "java/lang/IndexOutOfBoundsException") hown [] ⟨0, 16, 19, 13⟩ [⟨0, 16, 22, 17⟩] (htab.trans rfl) (fun z hz => nomatch hz) (by decide) (by decide) w0 (va_Nw.use rfl (hCa _ (by decide +kernel))) h1 h2 h3 ?_
      refine lv_astore_n (lv' := [(3, .ref q9), (0, .ref th), (1, .int p1), (2, .ref ou)]) hx hb dL_word_19 rfl hl (by decide) rfl (fun ls hl => ?_)
      refine lv_iconst (v := 1) hx hb dL_word_20 (by decide) ?_
      refine W.widen (k := 2) (n := 12) (Nat.le_of_ble_eq_true rfl) (Nat.le_of_ble_eq_true rfl) ?_
      exact z_wret (u := (K, L, c)) hx hb hr hlocks hC (Or.inr (Or.inl ⟨hq, rfl, rfl⟩)) dL_word_21
    · refine vx_catch (E := "java/lang/IllegalStateException") (name := "java/lang/IllegalStateException") hown [⟨0, 16, 19, 13⟩] ⟨0, 16, 22, 17⟩ [] (htab.trans rfl) (fun z hz => by simp only [List.mem_cons, List.not_mem_nil, or_false] at hz; subst hz; exact Or.inr ⟨by decide, _, w0, hNc "java/lang/IllegalStateException" (by decide +kernel) "java/lang/IndexOutOfBoundsException" (by decide +kernel) (by decide +kernel)⟩) (by decide) (by decide) w1 (va_Nw.use rfl (hCa _ (by decide +kernel))) h1 h2 h3 ?_
      refine lv_astore_n (lv' := [(3, .ref q9), (0, .ref th), (1, .int p1), (2, .ref ou)]) hx hb dL_word_22 rfl hl (by decide) rfl (fun ls hl => ?_)
      refine lv_iconst (v := 2) hx hb dL_word_23 (by decide) ?_
      refine W.widen (k := 2) (n := 12) (Nat.le_of_ble_eq_true rfl) (Nat.le_of_ble_eq_true rfl) ?_
      exact z_wret (u := (K, L, c)) hx hb hr hlocks hC (Or.inr (Or.inr (⟨hq, rfl, rfl⟩))) dL_word_24
  · refine lv_if_eq (tgt := 14) hx hb dL_word_7 (by decide) (fun hx0 => ?_) (fun hx0 => ?_)
    · have hxx : (if x = 0 then (0 : Int64) else 1) = 0 := if_pos hx0
      refine lv_lconst (v := 0) hx hb dL_word_14 (by decide) ?_
      refine xp_17 (c1 := zul c1 170 ou 0 0) hx hb hK hC hk_ou (by unfold vp_in; decide) rfl dL_word_15 (fun H locs hC => ?_)
      refine lv_goto (tgt := 25) hx hb dL_word_16 (by decide) ?_
      refine lv_iconst (v := 0) hx hb dL_word_25 (by decide) ?_
      refine W.widen (k := 2) (n := 12) (Nat.le_of_ble_eq_true rfl) (Nat.le_of_ble_eq_true rfl) ?_
      exact z_wret (u := (K, L, zul c1 170 ou 0 0)) hx hb hr hlocks hC (Or.inl ⟨x, c1, hq, rfl, by rw [hxx]⟩) dL_word_26
    · have hxx : (if x = 0 then (0 : Int64) else 1) = 1 := if_neg hx0
      refine lv_lconst (v := 1) hx hb dL_word_10 (by decide) ?_
      refine lv_goto (tgt := 15) hx hb dL_word_11 (by decide) ?_
      refine xp_17 (c1 := zul c1 170 ou 0 1) hx hb hK hC hk_ou (by unfold vp_in; decide) rfl dL_word_15 (fun H locs hC => ?_)
      refine lv_goto (tgt := 25) hx hb dL_word_16 (by decide) ?_
      refine lv_iconst (v := 0) hx hb dL_word_25 (by decide) ?_
      refine W.widen (k := 2) (n := 12) (Nat.le_of_ble_eq_true rfl) (Nat.le_of_ble_eq_true rfl) ?_
      exact z_wret (u := (K, L, zul c1 170 ou 0 1)) hx hb hr hlocks hC (Or.inl ⟨x, c1, hq, rfl, by rw [hxx]⟩) dL_word_26
set_option maxRecDepth 100000 in
set_option maxHeartbeats 4000000 in
theorem c_L_bell {l : Launch} {D : va_G} {cy : Nat → ClassId} {base : Nat} {st : Nat → Nat} {K : Nat → Nat} {L : List Nat} {c r : zS} {o : Int64} {z : Nat} (th : Nat) (ou : Nat) {res : (Int32 × zS) ⊕ Nat} (hk_th : K th = 6) (hk_ou : K ou = 17) (hst : l.stackTraces = false) (hf : f_X6_bell K z c th = some res) (herr : ∀ x, res = .inr x → x = 3) : Met l yL_bell wsL_bell ({ frames := 8, cells := 1, slots := 6, locals := 143 }) (va_Pc [.ref th, .ref ou] (zGW zts0 zns0 D cy base st K L (c, r, o))) (va_Qi (fun (rr : Int32) (u : zU) => (∃ (x : Int32) (c1 : zS), res = .inl (x, c1) ∧ rr = 0 ∧ u = (K, L, zul c1 170 ou 0 (Int32.toInt64 x))) ∨ (res = .inr 3 ∧ rr = 1 ∧ u = (K, L, c))) (fun u => zB D cy base u.1 u.2.1 (u.2.2, r, o)) (zA base)) 1 6 (zA base) := by
  refine va_MetW (cc := cL_bell) (maxL := 3) (ret := (some .int)) (hh := [(0, 8, 11, 17)]) (by decide) rfl ?_
  intro p e s m args below meth cd s₁ B hml hv
  obtain ⟨rfl, hG⟩ := hv
  have hx := B.exec
  have hb := B.bytes
  have hr := B.returns
  have hts := atoms_spec (ws := wsL_bell) B.pre
  have htab := vx_table (x := yL_bell) B (hts _ List.mem_cons_self)
  have hown : s.vm.findClass RL = some m.cls := findClass_of_methodNamed B.named
  have hlocks := B.notSynchronized
  have hC := hG.enter
  have hK := hG.2.2.2.1
  have hCa := hG.2.2.2.2.2.2.2.2.2.1
  have hNc := hG.2.2.2.2.2.2.2.2.2.2.1
  have w0 := hts (.classLink RL 17 "java/lang/IllegalStateException") (by decide +kernel)
  have hl := lv_entry ([.ref th, .ref ou]) (n := 3) (Nat.le_of_ble_eq_true rfl)
  rw [lg_entry_eq]
  generalize (lg_sl ([.ref th, .ref ou]) ++ List.replicate (3 - (lg_sl ([.ref th, .ref ou])).length) Slot.unset).toArray = ls at hl ⊢
  have hl : lv_has ls 3 [(0, .ref th), (1, .ref ou)] := hl
  refine lv_aload_n hx hb dL_bell_0 rfl (lv_at hl 1 rfl) ?_
  refine lv_iconst (v := 0) hx hb dL_bell_1 (by decide) ?_
  refine lv_aload_n hx hb dL_bell_2 rfl (lv_at hl 0 rfl) ?_
  refine z_xciW (z_rxV (As := []) (rest := [.int 0, .ref ou]) ⟨hx, hb, hml, hown, hts⟩ (c_X6_bell (l := l) (D := D) (cy := cy) (base := base) (st := st) (K := K) (L := L) (c := c) (r := r) (o := o) (z := z) th hk_th hst hf) (cwV 0 hts gL_bell_X6_bell rfl rfl rfl (by decide +kernel) ⟨(Nat.le_of_ble_eq_true rfl), (Nat.le_of_ble_eq_true rfl)⟩) hG hC (zC.recv (ci := 6) (fs := _) hK hC (by rw [hk_th]; decide) (by rw [hk_th]; exact zc_6 cy _ _) rfl) rfl hl.1 rfl (lv_room (Nat.le_of_ble_eq_true rfl)) dL_bell_3 ⟨(Nat.le_of_ble_eq_true rfl), (Nat.le_of_ble_eq_true rfl)⟩) hC (fun _ H locs q9 ce hq hC h1 h2 h3 => ?_) (fun x c1 H locs hq hC => ?_)
  · have e1 := herr _ hq
    subst e1
    refine vx_catch (E := "java/lang/IllegalStateException") (name := "java/lang/IllegalStateException") hown [] ⟨0, 8, 11, 17⟩ [] (htab.trans rfl) (fun z hz => nomatch hz) (by decide) (by decide) w0 (va_Nw.use rfl (hCa _ (by decide +kernel))) h1 h2 h3 ?_
    refine lv_astore_n (lv' := [(2, .ref q9), (0, .ref th), (1, .ref ou)]) hx hb dL_bell_11 rfl hl (by decide) rfl (fun ls hl => ?_)
    refine lv_iconst (v := 1) hx hb dL_bell_12 (by decide) ?_
    refine W.widen (k := 1) (n := 6) (Nat.le_of_ble_eq_true rfl) (Nat.le_of_ble_eq_true rfl) ?_
    exact z_wret (u := (K, L, c)) hx hb hr hlocks hC (Or.inr (⟨hq, rfl, rfl⟩)) dL_bell_13
  · refine lv_i2l (v := Int32.toInt64 x) hx hb dL_bell_6 rfl ?_
    refine xp_17 (c1 := zul c1 170 ou 0 (Int32.toInt64 x)) hx hb hK hC hk_ou (by unfold vp_in; decide) rfl dL_bell_7 (fun H locs hC => ?_)
    refine lv_goto (tgt := 14) hx hb dL_bell_8 (by decide) ?_
    refine lv_iconst (v := 0) hx hb dL_bell_14 (by decide) ?_
    refine W.widen (k := 1) (n := 6) (Nat.le_of_ble_eq_true rfl) (Nat.le_of_ble_eq_true rfl) ?_
    exact z_wret (u := (K, L, zul c1 170 ou 0 (Int32.toInt64 x))) hx hb hr hlocks hC (Or.inl ⟨x, c1, hq, rfl, rfl⟩) dL_bell_15
set_option maxRecDepth 100000 in
set_option maxHeartbeats 4000000 in
theorem c_L_why {l : Launch} {D : va_G} {cy : Nat → ClassId} {base : Nat} {st : Nat → Nat} {K : Nat → Nat} {L : List Nat} {c r : zS} {o : Int64} {z : Nat} (th : Nat) (p1 : Int32) (p2 : Int32) (p3 : Int32) (ou : Nat) {res : Int32 ⊕ Nat} (hk_th : K th = 6) (hk_ou : K ou = 17) (hst : l.stackTraces = false) (hf : f_X6_why K z c th p1 p2 p3 = some res) (herr : ∀ x, res = .inr x → x = 1) : Met l yL_why wsL_why ({ frames := 8, cells := 1, slots := 6, locals := 145 }) (va_Pc [.ref th, .int p1, .int p2, .int p3, .ref ou] (zGW zts0 zns0 D cy base st K L (c, r, o))) (va_Qi (fun (rr : Int32) (u : zU) => (∃ x : Int32, res = .inl x ∧ rr = 0 ∧ u = (K, L, zul c 170 ou 0 (Int32.toInt64 x))) ∨ (res = .inr 1 ∧ rr = 1 ∧ u = (K, L, c))) (fun u => zB D cy base u.1 u.2.1 (u.2.2, r, o)) (zA base)) 1 6 (zA base) := by
  refine va_MetW (cc := cL_why) (maxL := 6) (ret := (some .int)) (hh := [(0, 12, 15, 13)]) (by decide) rfl ?_
  intro p e s m args below meth cd s₁ B hml hv
  obtain ⟨rfl, hG⟩ := hv
  have hx := B.exec
  have hb := B.bytes
  have hr := B.returns
  have hts := atoms_spec (ws := wsL_why) B.pre
  have htab := vx_table (x := yL_why) B (hts _ List.mem_cons_self)
  have hown : s.vm.findClass RL = some m.cls := findClass_of_methodNamed B.named
  have hlocks := B.notSynchronized
  have hC := hG.enter
  have hK := hG.2.2.2.1
  have hCa := hG.2.2.2.2.2.2.2.2.2.1
  have hNc := hG.2.2.2.2.2.2.2.2.2.2.1
  have w0 := hts (.classLink RL 13 "java/lang/IndexOutOfBoundsException") (by decide +kernel)
  have hl := lv_entry ([.ref th, .int p1, .int p2, .int p3, .ref ou]) (n := 6) (Nat.le_of_ble_eq_true rfl)
  rw [lg_entry_eq]
  generalize (lg_sl ([.ref th, .int p1, .int p2, .int p3, .ref ou]) ++ List.replicate (6 - (lg_sl ([.ref th, .int p1, .int p2, .int p3, .ref ou])).length) Slot.unset).toArray = ls at hl ⊢
  have hl : lv_has ls 6 [(0, .ref th), (1, .int p1), (2, .int p2), (3, .int p3), (4, .ref ou)] := hl
  refine lv_aload hx hb dL_why_0 (lv_at hl 4 rfl) ?_
  refine lv_iconst (v := 0) hx hb dL_why_2 (by decide) ?_
  refine lv_aload_n hx hb dL_why_3 rfl (lv_at hl 0 rfl) ?_
  refine lv_iload_n hx hb dL_why_4 rfl (lv_at hl 1 rfl) ?_
  refine lv_iload_n hx hb dL_why_5 rfl (lv_at hl 2 rfl) ?_
  refine lv_iload_n hx hb dL_why_6 rfl (lv_at hl 3 rfl) ?_
  refine z_xci (z_rxV (As := [.int p1, .int p2, .int p3]) (rest := [.int 0, .ref ou]) ⟨hx, hb, hml, hown, hts⟩ (c_X6_why (l := l) (D := D) (cy := cy) (base := base) (st := st) (K := K) (L := L) (c := c) (r := r) (o := o) (z := z) th p1 p2 p3 hk_th hst hf) (cwV 3 hts gL_why_X6_why rfl rfl rfl (by decide +kernel) ⟨(Nat.le_of_ble_eq_true rfl), (Nat.le_of_ble_eq_true rfl)⟩) hG hC (zC.recv (ci := 6) (fs := _) hK hC (by rw [hk_th]; decide) (by rw [hk_th]; exact zc_6 cy _ _) rfl) rfl hl.1 rfl (lv_room (Nat.le_of_ble_eq_true rfl)) dL_why_7 ⟨(Nat.le_of_ble_eq_true rfl), (Nat.le_of_ble_eq_true rfl)⟩) hC (fun _ H locs q9 ce hq hC h1 h2 h3 => ?_) (fun x H locs hq hC => ?_)
  · have e1 := herr _ hq
    subst e1
    refine vx_catch (E := "java/lang/IndexOutOfBoundsException") (name := "java/lang/IndexOutOfBoundsException") hown [] ⟨0, 12, 15, 13⟩ [] (htab.trans rfl) (fun z hz => nomatch hz) (by decide) (by decide) w0 (va_Nw.use rfl (hCa _ (by decide +kernel))) h1 h2 h3 ?_
    refine lv_astore (lv' := [(5, .ref q9), (0, .ref th), (1, .int p1), (2, .int p2), (3, .int p3), (4, .ref ou)]) hx hb dL_why_15 hl (by decide) rfl (fun ls hl => ?_)
    refine lv_iconst (v := 1) hx hb dL_why_17 (by decide) ?_
    refine W.widen (k := 1) (n := 6) (Nat.le_of_ble_eq_true rfl) (Nat.le_of_ble_eq_true rfl) ?_
    exact z_wret (u := (K, L, c)) hx hb hr hlocks hC (Or.inr (⟨hq, rfl, rfl⟩)) dL_why_18
  · refine lv_i2l (v := Int32.toInt64 x) hx hb dL_why_10 rfl ?_
    refine xp_17 (c1 := zul c 170 ou 0 (Int32.toInt64 x)) hx hb hK hC hk_ou (by unfold vp_in; decide) rfl dL_why_11 (fun H locs hC => ?_)
    refine lv_goto (tgt := 19) hx hb dL_why_12 (by decide) ?_
    refine lv_iconst (v := 0) hx hb dL_why_19 (by decide) ?_
    refine W.widen (k := 1) (n := 6) (Nat.le_of_ble_eq_true rfl) (Nat.le_of_ble_eq_true rfl) ?_
    exact z_wret (u := (K, L, zul c 170 ou 0 (Int32.toInt64 x))) hx hb hr hlocks hC (Or.inl ⟨x, hq, rfl, rfl⟩) dL_why_20
set_option maxRecDepth 100000 in
set_option maxHeartbeats 4000000 in
theorem c_L_good {l : Launch} {D : va_G} {cy : Nat → ClassId} {base : Nat} {st : Nat → Nat} {K : Nat → Nat} {L : List Nat} {c r : zS} {o : Int64} {z : Nat} (th : Nat) (p1 : Int32) (ou : Nat) {res : Int32 ⊕ Nat} (hk_th : K th = 6) (hk_ou : K ou = 17) (hst : l.stackTraces = false) (hf : f_X6_good K z c th p1 = some res) (herr : ∀ x, res = .inr x → x = 1) : Met l yL_good wsL_good ({ frames := 8, cells := 1, slots := 6, locals := 159 }) (va_Pc [.ref th, .int p1, .ref ou] (zGW zts0 zns0 D cy base st K L (c, r, o))) (va_Qi (fun (rr : Int32) (u : zU) => (∃ x : Int32, res = .inl x ∧ rr = 0 ∧ u = (K, L, zul c 170 ou 0 (Int32.toInt64 x))) ∨ (res = .inr 1 ∧ rr = 1 ∧ u = (K, L, c))) (fun u => zB D cy base u.1 u.2.1 (u.2.2, r, o)) (zA base)) 1 6 (zA base) := by
  refine va_MetW (cc := cL_good) (maxL := 4) (ret := (some .int)) (hh := [(0, 9, 12, 13)]) (by decide) rfl ?_
  intro p e s m args below meth cd s₁ B hml hv
  obtain ⟨rfl, hG⟩ := hv
  have hx := B.exec
  have hb := B.bytes
  have hr := B.returns
  have hts := atoms_spec (ws := wsL_good) B.pre
  have htab := vx_table (x := yL_good) B (hts _ List.mem_cons_self)
  have hown : s.vm.findClass RL = some m.cls := findClass_of_methodNamed B.named
  have hlocks := B.notSynchronized
  have hC := hG.enter
  have hK := hG.2.2.2.1
  have hCa := hG.2.2.2.2.2.2.2.2.2.1
  have hNc := hG.2.2.2.2.2.2.2.2.2.2.1
  have w0 := hts (.classLink RL 13 "java/lang/IndexOutOfBoundsException") (by decide +kernel)
  have hl := lv_entry ([.ref th, .int p1, .ref ou]) (n := 4) (Nat.le_of_ble_eq_true rfl)
  rw [lg_entry_eq]
  generalize (lg_sl ([.ref th, .int p1, .ref ou]) ++ List.replicate (4 - (lg_sl ([.ref th, .int p1, .ref ou])).length) Slot.unset).toArray = ls at hl ⊢
  have hl : lv_has ls 4 [(0, .ref th), (1, .int p1), (2, .ref ou)] := hl
  refine lv_aload_n hx hb dL_good_0 rfl (lv_at hl 2 rfl) ?_
  refine lv_iconst (v := 0) hx hb dL_good_1 (by decide) ?_
  refine lv_aload_n hx hb dL_good_2 rfl (lv_at hl 0 rfl) ?_
  refine lv_iload_n hx hb dL_good_3 rfl (lv_at hl 1 rfl) ?_
  refine z_xci (z_rxV (As := [.int p1]) (rest := [.int 0, .ref ou]) ⟨hx, hb, hml, hown, hts⟩ (c_X6_good (l := l) (D := D) (cy := cy) (base := base) (st := st) (K := K) (L := L) (c := c) (r := r) (o := o) (z := z) th p1 hk_th hst hf) (cwV 1 hts gL_good_X6_good rfl rfl rfl (by decide +kernel) ⟨(Nat.le_of_ble_eq_true rfl), (Nat.le_of_ble_eq_true rfl)⟩) hG hC (zC.recv (ci := 6) (fs := _) hK hC (by rw [hk_th]; decide) (by rw [hk_th]; exact zc_6 cy _ _) rfl) rfl hl.1 rfl (lv_room (Nat.le_of_ble_eq_true rfl)) dL_good_4 ⟨(Nat.le_of_ble_eq_true rfl), (Nat.le_of_ble_eq_true rfl)⟩) hC (fun _ H locs q9 ce hq hC h1 h2 h3 => ?_) (fun x H locs hq hC => ?_)
  · have e1 := herr _ hq
    subst e1
    refine vx_catch (E := "java/lang/IndexOutOfBoundsException") (name := "java/lang/IndexOutOfBoundsException") hown [] ⟨0, 9, 12, 13⟩ [] (htab.trans rfl) (fun z hz => nomatch hz) (by decide) (by decide) w0 (va_Nw.use rfl (hCa _ (by decide +kernel))) h1 h2 h3 ?_
    refine lv_astore_n (lv' := [(3, .ref q9), (0, .ref th), (1, .int p1), (2, .ref ou)]) hx hb dL_good_12 rfl hl (by decide) rfl (fun ls hl => ?_)
    refine lv_iconst (v := 1) hx hb dL_good_13 (by decide) ?_
    refine W.widen (k := 1) (n := 6) (Nat.le_of_ble_eq_true rfl) (Nat.le_of_ble_eq_true rfl) ?_
    exact z_wret (u := (K, L, c)) hx hb hr hlocks hC (Or.inr (⟨hq, rfl, rfl⟩)) dL_good_14
  · refine lv_i2l (v := Int32.toInt64 x) hx hb dL_good_7 rfl ?_
    refine xp_17 (c1 := zul c 170 ou 0 (Int32.toInt64 x)) hx hb hK hC hk_ou (by unfold vp_in; decide) rfl dL_good_8 (fun H locs hC => ?_)
    refine lv_goto (tgt := 15) hx hb dL_good_9 (by decide) ?_
    refine lv_iconst (v := 0) hx hb dL_good_15 (by decide) ?_
    refine W.widen (k := 1) (n := 6) (Nat.le_of_ble_eq_true rfl) (Nat.le_of_ble_eq_true rfl) ?_
    exact z_wret (u := (K, L, zul c 170 ou 0 (Int32.toInt64 x))) hx hb hr hlocks hC (Or.inl ⟨x, hq, rfl, rfl⟩) dL_good_16
set_option maxRecDepth 100000 in
set_option maxHeartbeats 4000000 in
theorem c_L_next {l : Launch} {D : va_G} {cy : Nat → ClassId} {base : Nat} {st : Nat → Nat} {K : Nat → Nat} {L : List Nat} {c r : zS} {o : Int64} {z : Nat} (th : Nat) (ou : Nat) {res : (Int32 × zS) ⊕ Nat} (hk_th : K th = 6) (hk_ou : K ou = 17) (hst : l.stackTraces = false) (hf : f_X6_next K z c th = some res) (herr : ∀ x, res = .inr x → x = 3) : Met l yL_next wsL_next ({ frames := 8, cells := 1, slots := 6, locals := 162 }) (va_Pc [.ref th, .ref ou] (zGW zts0 zns0 D cy base st K L (c, r, o))) (va_Qi (fun (rr : Int32) (u : zU) => (∃ (x : Int32) (c1 : zS), res = .inl (x, c1) ∧ rr = 0 ∧ u = (K, L, zul c1 170 ou 0 (Int32.toInt64 x))) ∨ (res = .inr 3 ∧ rr = 1 ∧ u = (K, L, c))) (fun u => zB D cy base u.1 u.2.1 (u.2.2, r, o)) (zA base)) 1 6 (zA base) := by
  refine va_MetW (cc := cL_next) (maxL := 3) (ret := (some .int)) (hh := [(0, 8, 11, 17)]) (by decide) rfl ?_
  intro p e s m args below meth cd s₁ B hml hv
  obtain ⟨rfl, hG⟩ := hv
  have hx := B.exec
  have hb := B.bytes
  have hr := B.returns
  have hts := atoms_spec (ws := wsL_next) B.pre
  have htab := vx_table (x := yL_next) B (hts _ List.mem_cons_self)
  have hown : s.vm.findClass RL = some m.cls := findClass_of_methodNamed B.named
  have hlocks := B.notSynchronized
  have hC := hG.enter
  have hK := hG.2.2.2.1
  have hCa := hG.2.2.2.2.2.2.2.2.2.1
  have hNc := hG.2.2.2.2.2.2.2.2.2.2.1
  have w0 := hts (.classLink RL 17 "java/lang/IllegalStateException") (by decide +kernel)
  have hl := lv_entry ([.ref th, .ref ou]) (n := 3) (Nat.le_of_ble_eq_true rfl)
  rw [lg_entry_eq]
  generalize (lg_sl ([.ref th, .ref ou]) ++ List.replicate (3 - (lg_sl ([.ref th, .ref ou])).length) Slot.unset).toArray = ls at hl ⊢
  have hl : lv_has ls 3 [(0, .ref th), (1, .ref ou)] := hl
  refine lv_aload_n hx hb dL_next_0 rfl (lv_at hl 1 rfl) ?_
  refine lv_iconst (v := 0) hx hb dL_next_1 (by decide) ?_
  refine lv_aload_n hx hb dL_next_2 rfl (lv_at hl 0 rfl) ?_
  refine z_xciW (z_rxV (As := []) (rest := [.int 0, .ref ou]) ⟨hx, hb, hml, hown, hts⟩ (c_X6_next (l := l) (D := D) (cy := cy) (base := base) (st := st) (K := K) (L := L) (c := c) (r := r) (o := o) (z := z) th hk_th hst hf) (cwV 0 hts gL_next_X6_next rfl rfl rfl (by decide +kernel) ⟨(Nat.le_of_ble_eq_true rfl), (Nat.le_of_ble_eq_true rfl)⟩) hG hC (zC.recv (ci := 6) (fs := _) hK hC (by rw [hk_th]; decide) (by rw [hk_th]; exact zc_6 cy _ _) rfl) rfl hl.1 rfl (lv_room (Nat.le_of_ble_eq_true rfl)) dL_next_3 ⟨(Nat.le_of_ble_eq_true rfl), (Nat.le_of_ble_eq_true rfl)⟩) hC (fun _ H locs q9 ce hq hC h1 h2 h3 => ?_) (fun x c1 H locs hq hC => ?_)
  · have e1 := herr _ hq
    subst e1
    refine vx_catch (E := "java/lang/IllegalStateException") (name := "java/lang/IllegalStateException") hown [] ⟨0, 8, 11, 17⟩ [] (htab.trans rfl) (fun z hz => nomatch hz) (by decide) (by decide) w0 (va_Nw.use rfl (hCa _ (by decide +kernel))) h1 h2 h3 ?_
    refine lv_astore_n (lv' := [(2, .ref q9), (0, .ref th), (1, .ref ou)]) hx hb dL_next_11 rfl hl (by decide) rfl (fun ls hl => ?_)
    refine lv_iconst (v := 1) hx hb dL_next_12 (by decide) ?_
    refine W.widen (k := 1) (n := 6) (Nat.le_of_ble_eq_true rfl) (Nat.le_of_ble_eq_true rfl) ?_
    exact z_wret (u := (K, L, c)) hx hb hr hlocks hC (Or.inr (⟨hq, rfl, rfl⟩)) dL_next_13
  · refine lv_i2l (v := Int32.toInt64 x) hx hb dL_next_6 rfl ?_
    refine xp_17 (c1 := zul c1 170 ou 0 (Int32.toInt64 x)) hx hb hK hC hk_ou (by unfold vp_in; decide) rfl dL_next_7 (fun H locs hC => ?_)
    refine lv_goto (tgt := 14) hx hb dL_next_8 (by decide) ?_
    refine lv_iconst (v := 0) hx hb dL_next_14 (by decide) ?_
    refine W.widen (k := 1) (n := 6) (Nat.le_of_ble_eq_true rfl) (Nat.le_of_ble_eq_true rfl) ?_
    exact z_wret (u := (K, L, zul c1 170 ou 0 (Int32.toInt64 x))) hx hb hr hlocks hC (Or.inl ⟨x, c1, hq, rfl, rfl⟩) dL_next_15
set_option maxRecDepth 100000 in
set_option maxHeartbeats 4000000 in
theorem c_L_full {l : Launch} {D : va_G} {cy : Nat → ClassId} {base : Nat} {st : Nat → Nat} {K : Nat → Nat} {L : List Nat} {c r : zS} {o : Int64} {z : Nat} (th : Nat) (ou : Nat) {res : Int32 ⊕ Nat} (hk_th : K th = 6) (hk_ou : K ou = 17) (hst : l.stackTraces = false) (hf : f_X6_full K z c th = some res) (herr : ∀ x, res = .inr x → x = 3) : Met l yL_full wsL_full ({ frames := 8, cells := 1, slots := 6, locals := 160 }) (va_Pc [.ref th, .ref ou] (zGW zts0 zns0 D cy base st K L (c, r, o))) (va_Qi (fun (rr : Int32) (u : zU) => (∃ x : Int32, res = .inl x ∧ rr = 0 ∧ u = (K, L, zul c 170 ou 0 (if x = 0 then 0 else 1))) ∨ (res = .inr 3 ∧ rr = 1 ∧ u = (K, L, c))) (fun u => zB D cy base u.1 u.2.1 (u.2.2, r, o)) (zA base)) 1 6 (zA base) := by
  refine va_MetW (cc := cL_full) (maxL := 3) (ret := (some .int)) (hh := [(0, 15, 18, 17)]) (by decide) rfl ?_
  intro p e s m args below meth cd s₁ B hml hv
  obtain ⟨rfl, hG⟩ := hv
  have hx := B.exec
  have hb := B.bytes
  have hr := B.returns
  have hts := atoms_spec (ws := wsL_full) B.pre
  have htab := vx_table (x := yL_full) B (hts _ List.mem_cons_self)
  have hown : s.vm.findClass RL = some m.cls := findClass_of_methodNamed B.named
  have hlocks := B.notSynchronized
  have hC := hG.enter
  have hK := hG.2.2.2.1
  have hCa := hG.2.2.2.2.2.2.2.2.2.1
  have hNc := hG.2.2.2.2.2.2.2.2.2.2.1
  have w0 := hts (.classLink RL 17 "java/lang/IllegalStateException") (by decide +kernel)
  have hl := lv_entry ([.ref th, .ref ou]) (n := 3) (Nat.le_of_ble_eq_true rfl)
  rw [lg_entry_eq]
  generalize (lg_sl ([.ref th, .ref ou]) ++ List.replicate (3 - (lg_sl ([.ref th, .ref ou])).length) Slot.unset).toArray = ls at hl ⊢
  have hl : lv_has ls 3 [(0, .ref th), (1, .ref ou)] := hl
  refine lv_aload_n hx hb dL_full_0 rfl (lv_at hl 1 rfl) ?_
  refine lv_iconst (v := 0) hx hb dL_full_1 (by decide) ?_
  refine lv_aload_n hx hb dL_full_2 rfl (lv_at hl 0 rfl) ?_
  refine z_xci (z_rxV (As := []) (rest := [.int 0, .ref ou]) ⟨hx, hb, hml, hown, hts⟩ (c_X6_full (l := l) (D := D) (cy := cy) (base := base) (st := st) (K := K) (L := L) (c := c) (r := r) (o := o) (z := z) th hk_th hst hf) (cwV 0 hts gL_full_X6_full rfl rfl rfl (by decide +kernel) ⟨(Nat.le_of_ble_eq_true rfl), (Nat.le_of_ble_eq_true rfl)⟩) hG hC (zC.recv (ci := 6) (fs := _) hK hC (by rw [hk_th]; decide) (by rw [hk_th]; exact zc_6 cy _ _) rfl) rfl hl.1 rfl (lv_room (Nat.le_of_ble_eq_true rfl)) dL_full_3 ⟨(Nat.le_of_ble_eq_true rfl), (Nat.le_of_ble_eq_true rfl)⟩) hC (fun _ H locs q9 ce hq hC h1 h2 h3 => ?_) (fun x H locs hq hC => ?_)
  · have e1 := herr _ hq
    subst e1
    refine vx_catch (E := "java/lang/IllegalStateException") (name := "java/lang/IllegalStateException") hown [] ⟨0, 15, 18, 17⟩ [] (htab.trans rfl) (fun z hz => nomatch hz) (by decide) (by decide) w0 (va_Nw.use rfl (hCa _ (by decide +kernel))) h1 h2 h3 ?_
    refine lv_astore_n (lv' := [(2, .ref q9), (0, .ref th), (1, .ref ou)]) hx hb dL_full_18 rfl hl (by decide) rfl (fun ls hl => ?_)
    refine lv_iconst (v := 1) hx hb dL_full_19 (by decide) ?_
    refine W.widen (k := 1) (n := 6) (Nat.le_of_ble_eq_true rfl) (Nat.le_of_ble_eq_true rfl) ?_
    exact z_wret (u := (K, L, c)) hx hb hr hlocks hC (Or.inr (⟨hq, rfl, rfl⟩)) dL_full_20
  · refine lv_if_eq (tgt := 13) hx hb dL_full_6 (by decide) (fun hx0 => ?_) (fun hx0 => ?_)
    · have hxx : (if x = 0 then (0 : Int64) else 1) = 0 := if_pos hx0
      refine lv_lconst (v := 0) hx hb dL_full_13 (by decide) ?_
      refine xp_17 (c1 := zul c 170 ou 0 0) hx hb hK hC hk_ou (by unfold vp_in; decide) rfl dL_full_14 (fun H locs hC => ?_)
      refine lv_goto (tgt := 21) hx hb dL_full_15 (by decide) ?_
      refine lv_iconst (v := 0) hx hb dL_full_21 (by decide) ?_
      refine W.widen (k := 1) (n := 6) (Nat.le_of_ble_eq_true rfl) (Nat.le_of_ble_eq_true rfl) ?_
      exact z_wret (u := (K, L, zul c 170 ou 0 0)) hx hb hr hlocks hC (Or.inl ⟨x, hq, rfl, by rw [hxx]⟩) dL_full_22
    · have hxx : (if x = 0 then (0 : Int64) else 1) = 1 := if_neg hx0
      refine lv_lconst (v := 1) hx hb dL_full_9 (by decide) ?_
      refine lv_goto (tgt := 14) hx hb dL_full_10 (by decide) ?_
      refine xp_17 (c1 := zul c 170 ou 0 1) hx hb hK hC hk_ou (by unfold vp_in; decide) rfl dL_full_14 (fun H locs hC => ?_)
      refine lv_goto (tgt := 21) hx hb dL_full_15 (by decide) ?_
      refine lv_iconst (v := 0) hx hb dL_full_21 (by decide) ?_
      refine W.widen (k := 1) (n := 6) (Nat.le_of_ble_eq_true rfl) (Nat.le_of_ble_eq_true rfl) ?_
      exact z_wret (u := (K, L, zul c 170 ou 0 1)) hx hb hr hlocks hC (Or.inl ⟨x, hq, rfl, by rw [hxx]⟩) dL_full_22
set_option maxRecDepth 100000 in
set_option maxHeartbeats 4000000 in
theorem c_L_move {l : Launch} {D : va_G} {cy : Nat → ClassId} {base : Nat} {st : Nat → Nat} {K : Nat → Nat} {L : List Nat} {c r : zS} {o : Int64} {z : Nat} (th : Nat) (p1 : Int32) (p2 : Int32) (p3 : Int32) (ou : Nat) {res : (Int32 × zS) ⊕ Nat} (hk_th : K th = 6) (hk_ou : K ou = 17) (hst : l.stackTraces = false) (hf : f_X6_move K z c th p1 p2 p3 = some res) (herr : ∀ x, res = .inr x → x = 1 ∨ x = 3) : Met l yL_move wsL_move ({ frames := 8, cells := 2, slots := 12, locals := 146 }) (va_Pc [.ref th, .int p1, .int p2, .int p3, .ref ou] (zGW zts0 zns0 D cy base st K L (c, r, o))) (va_Qi (fun (rr : Int32) (u : zU) => (∃ (x : Int32) (c1 : zS), res = .inl (x, c1) ∧ rr = 0 ∧ u = (K, L, zul c1 170 ou 0 (if x = 0 then 0 else 1))) ∨ (res = .inr 1 ∧ rr = 1 ∧ u = (K, L, c)) ∨ (res = .inr 3 ∧ rr = 2 ∧ u = (K, L, c))) (fun u => zB D cy base u.1 u.2.1 (u.2.2, r, o)) (zA base)) 2 12 (zA base) := by
  refine va_MetW (cc := cL_move) (maxL := 6) (ret := (some .int)) (hh := [(0, 19, 22, 13), (0, 19, 26, 17)]) (by decide) rfl ?_
  intro p e s m args below meth cd s₁ B hml hv
  obtain ⟨rfl, hG⟩ := hv
  have hx := B.exec
  have hb := B.bytes
  have hr := B.returns
  have hts := atoms_spec (ws := wsL_move) B.pre
  have htab := vx_table (x := yL_move) B (hts _ List.mem_cons_self)
  have hown : s.vm.findClass RL = some m.cls := findClass_of_methodNamed B.named
  have hlocks := B.notSynchronized
  have hC := hG.enter
  have hK := hG.2.2.2.1
  have hCa := hG.2.2.2.2.2.2.2.2.2.1
  have hNc := hG.2.2.2.2.2.2.2.2.2.2.1
  have w0 := hts (.classLink RL 13 "java/lang/IndexOutOfBoundsException") (by decide +kernel)
  have w1 := hts (.classLink RL 17 "java/lang/IllegalStateException") (by decide +kernel)
  have hl := lv_entry ([.ref th, .int p1, .int p2, .int p3, .ref ou]) (n := 6) (Nat.le_of_ble_eq_true rfl)
  rw [lg_entry_eq]
  generalize (lg_sl ([.ref th, .int p1, .int p2, .int p3, .ref ou]) ++ List.replicate (6 - (lg_sl ([.ref th, .int p1, .int p2, .int p3, .ref ou])).length) Slot.unset).toArray = ls at hl ⊢
  have hl : lv_has ls 6 [(0, .ref th), (1, .int p1), (2, .int p2), (3, .int p3), (4, .ref ou)] := hl
  refine lv_aload hx hb dL_move_0 (lv_at hl 4 rfl) ?_
  refine lv_iconst (v := 0) hx hb dL_move_2 (by decide) ?_
  refine lv_aload_n hx hb dL_move_3 rfl (lv_at hl 0 rfl) ?_
  refine lv_iload_n hx hb dL_move_4 rfl (lv_at hl 1 rfl) ?_
  refine lv_iload_n hx hb dL_move_5 rfl (lv_at hl 2 rfl) ?_
  refine lv_iload_n hx hb dL_move_6 rfl (lv_at hl 3 rfl) ?_
  refine z_xciW (z_rxV (As := [.int p1, .int p2, .int p3]) (rest := [.int 0, .ref ou]) ⟨hx, hb, hml, hown, hts⟩ (c_X6_move (l := l) (D := D) (cy := cy) (base := base) (st := st) (K := K) (L := L) (c := c) (r := r) (o := o) (z := z) th p1 p2 p3 hk_th hst hf) (cwV 3 hts gL_move_X6_move rfl rfl rfl (by decide +kernel) ⟨(Nat.le_of_ble_eq_true rfl), (Nat.le_of_ble_eq_true rfl)⟩) hG hC (zC.recv (ci := 6) (fs := _) hK hC (by rw [hk_th]; decide) (by rw [hk_th]; exact zc_6 cy _ _) rfl) rfl hl.1 rfl (lv_room (Nat.le_of_ble_eq_true rfl)) dL_move_7 ⟨(Nat.le_of_ble_eq_true rfl), (Nat.le_of_ble_eq_true rfl)⟩) hC (fun _ H locs q9 ce hq hC h1 h2 h3 => ?_) (fun x c1 H locs hq hC => ?_)
  · rcases herr _ hq with rfl | rfl
    · refine vx_catch (E := "java/lang/IndexOutOfBoundsException") (name := "java/lang/IndexOutOfBoundsException") hown [] ⟨0, 19, 22, 13⟩ [⟨0, 19, 26, 17⟩] (htab.trans rfl) (fun z hz => nomatch hz) (by decide) (by decide) w0 (va_Nw.use rfl (hCa _ (by decide +kernel))) h1 h2 h3 ?_
      refine lv_astore (lv' := [(5, .ref q9), (0, .ref th), (1, .int p1), (2, .int p2), (3, .int p3), (4, .ref ou)]) hx hb dL_move_22 hl (by decide) rfl (fun ls hl => ?_)
      refine lv_iconst (v := 1) hx hb dL_move_24 (by decide) ?_
      refine W.widen (k := 2) (n := 12) (Nat.le_of_ble_eq_true rfl) (Nat.le_of_ble_eq_true rfl) ?_
      exact z_wret (u := (K, L, c)) hx hb hr hlocks hC (Or.inr (Or.inl ⟨hq, rfl, rfl⟩)) dL_move_25
    · refine vx_catch (E := "java/lang/IllegalStateException") (name := "java/lang/IllegalStateException") hown [⟨0, 19, 22, 13⟩] ⟨0, 19, 26, 17⟩ [] (htab.trans rfl) (fun z hz => by simp only [List.mem_cons, List.not_mem_nil, or_false] at hz; subst hz; exact Or.inr ⟨by decide, _, w0, hNc "java/lang/IllegalStateException" (by decide +kernel) "java/lang/IndexOutOfBoundsException" (by decide +kernel) (by decide +kernel)⟩) (by decide) (by decide) w1 (va_Nw.use rfl (hCa _ (by decide +kernel))) h1 h2 h3 ?_
      refine lv_astore (lv' := [(5, .ref q9), (0, .ref th), (1, .int p1), (2, .int p2), (3, .int p3), (4, .ref ou)]) hx hb dL_move_26 hl (by decide) rfl (fun ls hl => ?_)
      refine lv_iconst (v := 2) hx hb dL_move_28 (by decide) ?_
      refine W.widen (k := 2) (n := 12) (Nat.le_of_ble_eq_true rfl) (Nat.le_of_ble_eq_true rfl) ?_
      exact z_wret (u := (K, L, c)) hx hb hr hlocks hC (Or.inr (Or.inr (⟨hq, rfl, rfl⟩))) dL_move_29
  · refine lv_if_eq (tgt := 17) hx hb dL_move_10 (by decide) (fun hx0 => ?_) (fun hx0 => ?_)
    · have hxx : (if x = 0 then (0 : Int64) else 1) = 0 := if_pos hx0
      refine lv_lconst (v := 0) hx hb dL_move_17 (by decide) ?_
      refine xp_17 (c1 := zul c1 170 ou 0 0) hx hb hK hC hk_ou (by unfold vp_in; decide) rfl dL_move_18 (fun H locs hC => ?_)
      refine lv_goto (tgt := 30) hx hb dL_move_19 (by decide) ?_
      refine lv_iconst (v := 0) hx hb dL_move_30 (by decide) ?_
      refine W.widen (k := 2) (n := 12) (Nat.le_of_ble_eq_true rfl) (Nat.le_of_ble_eq_true rfl) ?_
      exact z_wret (u := (K, L, zul c1 170 ou 0 0)) hx hb hr hlocks hC (Or.inl ⟨x, c1, hq, rfl, by rw [hxx]⟩) dL_move_31
    · have hxx : (if x = 0 then (0 : Int64) else 1) = 1 := if_neg hx0
      refine lv_lconst (v := 1) hx hb dL_move_13 (by decide) ?_
      refine lv_goto (tgt := 18) hx hb dL_move_14 (by decide) ?_
      refine xp_17 (c1 := zul c1 170 ou 0 1) hx hb hK hC hk_ou (by unfold vp_in; decide) rfl dL_move_18 (fun H locs hC => ?_)
      refine lv_goto (tgt := 30) hx hb dL_move_19 (by decide) ?_
      refine lv_iconst (v := 0) hx hb dL_move_30 (by decide) ?_
      refine W.widen (k := 2) (n := 12) (Nat.le_of_ble_eq_true rfl) (Nat.le_of_ble_eq_true rfl) ?_
      exact z_wret (u := (K, L, zul c1 170 ou 0 1)) hx hb hr hlocks hC (Or.inl ⟨x, c1, hq, rfl, by rw [hxx]⟩) dL_move_31
set_option maxRecDepth 100000 in
set_option maxHeartbeats 4000000 in
theorem c_L_change {l : Launch} {D : va_G} {cy : Nat → ClassId} {base : Nat} {st : Nat → Nat} {K : Nat → Nat} {L : List Nat} {c r : zS} {o : Int64} {z : Nat} (th : Nat) (p1 : Int32) (p2 : Int32) (ou : Nat) {res : (Int32 × zS) ⊕ Nat} (hk_th : K th = 6) (hk_ou : K ou = 17) (hst : l.stackTraces = false) (hf : f_X6_change K z c th p1 p2 = some res) (herr : ∀ x, res = .inr x → x = 1 ∨ x = 3) : Met l yL_change wsL_change ({ frames := 8, cells := 3, slots := 18, locals := 146 }) (va_Pc [.ref th, .int p1, .int p2, .ref ou] (zGW zts0 zns0 D cy base st K L (c, r, o))) (va_Qi (fun (rr : Int32) (u : zU) => (∃ (x : Int32) (c1 : zS), res = .inl (x, c1) ∧ rr = 0 ∧ u = (K, L, zul c1 170 ou 0 (if x = 0 then 0 else 1))) ∨ (res = .inr 1 ∧ rr = 1 ∧ u = (K, L, c)) ∨ (res = .inr 3 ∧ rr = 2 ∧ u = (K, L, c))) (fun u => zB D cy base u.1 u.2.1 (u.2.2, r, o)) (zA base)) 3 18 (zA base) := by
  refine va_MetW (cc := cL_change) (maxL := 5) (ret := (some .int)) (hh := [(0, 17, 20, 13), (0, 17, 24, 17)]) (by decide) rfl ?_
  intro p e s m args below meth cd s₁ B hml hv
  obtain ⟨rfl, hG⟩ := hv
  have hx := B.exec
  have hb := B.bytes
  have hr := B.returns
  have hts := atoms_spec (ws := wsL_change) B.pre
  have htab := vx_table (x := yL_change) B (hts _ List.mem_cons_self)
  have hown : s.vm.findClass RL = some m.cls := findClass_of_methodNamed B.named
  have hlocks := B.notSynchronized
  have hC := hG.enter
  have hK := hG.2.2.2.1
  have hCa := hG.2.2.2.2.2.2.2.2.2.1
  have hNc := hG.2.2.2.2.2.2.2.2.2.2.1
  have w0 := hts (.classLink RL 13 "java/lang/IndexOutOfBoundsException") (by decide +kernel)
  have w1 := hts (.classLink RL 17 "java/lang/IllegalStateException") (by decide +kernel)
  have hl := lv_entry ([.ref th, .int p1, .int p2, .ref ou]) (n := 5) (Nat.le_of_ble_eq_true rfl)
  rw [lg_entry_eq]
  generalize (lg_sl ([.ref th, .int p1, .int p2, .ref ou]) ++ List.replicate (5 - (lg_sl ([.ref th, .int p1, .int p2, .ref ou])).length) Slot.unset).toArray = ls at hl ⊢
  have hl : lv_has ls 5 [(0, .ref th), (1, .int p1), (2, .int p2), (3, .ref ou)] := hl
  refine lv_aload_n hx hb dL_change_0 rfl (lv_at hl 3 rfl) ?_
  refine lv_iconst (v := 0) hx hb dL_change_1 (by decide) ?_
  refine lv_aload_n hx hb dL_change_2 rfl (lv_at hl 0 rfl) ?_
  refine lv_iload_n hx hb dL_change_3 rfl (lv_at hl 1 rfl) ?_
  refine lv_iload_n hx hb dL_change_4 rfl (lv_at hl 2 rfl) ?_
  refine z_xciW (z_rxV (As := [.int p1, .int p2]) (rest := [.int 0, .ref ou]) ⟨hx, hb, hml, hown, hts⟩ (c_X6_change (l := l) (D := D) (cy := cy) (base := base) (st := st) (K := K) (L := L) (c := c) (r := r) (o := o) (z := z) th p1 p2 hk_th hst hf) (cwV 2 hts gL_change_X6_change rfl rfl rfl (by decide +kernel) ⟨(Nat.le_of_ble_eq_true rfl), (Nat.le_of_ble_eq_true rfl)⟩) hG hC (zC.recv (ci := 6) (fs := _) hK hC (by rw [hk_th]; decide) (by rw [hk_th]; exact zc_6 cy _ _) rfl) rfl hl.1 rfl (lv_room (Nat.le_of_ble_eq_true rfl)) dL_change_5 ⟨(Nat.le_of_ble_eq_true rfl), (Nat.le_of_ble_eq_true rfl)⟩) hC (fun _ H locs q9 ce hq hC h1 h2 h3 => ?_) (fun x c1 H locs hq hC => ?_)
  · rcases herr _ hq with rfl | rfl
    · refine vx_catch (E := "java/lang/IndexOutOfBoundsException") (name := "java/lang/IndexOutOfBoundsException") hown [] ⟨0, 17, 20, 13⟩ [⟨0, 17, 24, 17⟩] (htab.trans rfl) (fun z hz => nomatch hz) (by decide) (by decide) w0 (va_Nw.use rfl (hCa _ (by decide +kernel))) h1 h2 h3 ?_
      refine lv_astore (lv' := [(4, .ref q9), (0, .ref th), (1, .int p1), (2, .int p2), (3, .ref ou)]) hx hb dL_change_20 hl (by decide) rfl (fun ls hl => ?_)
      refine lv_iconst (v := 1) hx hb dL_change_22 (by decide) ?_
      refine W.widen (k := 3) (n := 18) (Nat.le_of_ble_eq_true rfl) (Nat.le_of_ble_eq_true rfl) ?_
      exact z_wret (u := (K, L, c)) hx hb hr hlocks hC (Or.inr (Or.inl ⟨hq, rfl, rfl⟩)) dL_change_23
    · refine vx_catch (E := "java/lang/IllegalStateException") (name := "java/lang/IllegalStateException") hown [⟨0, 17, 20, 13⟩] ⟨0, 17, 24, 17⟩ [] (htab.trans rfl) (fun z hz => by simp only [List.mem_cons, List.not_mem_nil, or_false] at hz; subst hz; exact Or.inr ⟨by decide, _, w0, hNc "java/lang/IllegalStateException" (by decide +kernel) "java/lang/IndexOutOfBoundsException" (by decide +kernel) (by decide +kernel)⟩) (by decide) (by decide) w1 (va_Nw.use rfl (hCa _ (by decide +kernel))) h1 h2 h3 ?_
      refine lv_astore (lv' := [(4, .ref q9), (0, .ref th), (1, .int p1), (2, .int p2), (3, .ref ou)]) hx hb dL_change_24 hl (by decide) rfl (fun ls hl => ?_)
      refine lv_iconst (v := 2) hx hb dL_change_26 (by decide) ?_
      refine W.widen (k := 3) (n := 18) (Nat.le_of_ble_eq_true rfl) (Nat.le_of_ble_eq_true rfl) ?_
      exact z_wret (u := (K, L, c)) hx hb hr hlocks hC (Or.inr (Or.inr (⟨hq, rfl, rfl⟩))) dL_change_27
  · refine lv_if_eq (tgt := 15) hx hb dL_change_8 (by decide) (fun hx0 => ?_) (fun hx0 => ?_)
    · have hxx : (if x = 0 then (0 : Int64) else 1) = 0 := if_pos hx0
      refine lv_lconst (v := 0) hx hb dL_change_15 (by decide) ?_
      refine xp_17 (c1 := zul c1 170 ou 0 0) hx hb hK hC hk_ou (by unfold vp_in; decide) rfl dL_change_16 (fun H locs hC => ?_)
      refine lv_goto (tgt := 28) hx hb dL_change_17 (by decide) ?_
      refine lv_iconst (v := 0) hx hb dL_change_28 (by decide) ?_
      refine W.widen (k := 3) (n := 18) (Nat.le_of_ble_eq_true rfl) (Nat.le_of_ble_eq_true rfl) ?_
      exact z_wret (u := (K, L, zul c1 170 ou 0 0)) hx hb hr hlocks hC (Or.inl ⟨x, c1, hq, rfl, by rw [hxx]⟩) dL_change_29
    · have hxx : (if x = 0 then (0 : Int64) else 1) = 1 := if_neg hx0
      refine lv_lconst (v := 1) hx hb dL_change_11 (by decide) ?_
      refine lv_goto (tgt := 16) hx hb dL_change_12 (by decide) ?_
      refine xp_17 (c1 := zul c1 170 ou 0 1) hx hb hK hC hk_ou (by unfold vp_in; decide) rfl dL_change_16 (fun H locs hC => ?_)
      refine lv_goto (tgt := 28) hx hb dL_change_17 (by decide) ?_
      refine lv_iconst (v := 0) hx hb dL_change_28 (by decide) ?_
      refine W.widen (k := 3) (n := 18) (Nat.le_of_ble_eq_true rfl) (Nat.le_of_ble_eq_true rfl) ?_
      exact z_wret (u := (K, L, zul c1 170 ou 0 1)) hx hb hr hlocks hC (Or.inl ⟨x, c1, hq, rfl, by rw [hxx]⟩) dL_change_29
set_option maxRecDepth 100000 in
set_option maxHeartbeats 4000000 in
theorem c_L_leave {l : Launch} {D : va_G} {cy : Nat → ClassId} {base : Nat} {st : Nat → Nat} {K : Nat → Nat} {L : List Nat} {c r : zS} {o : Int64} {z : Nat} (th : Nat) (p1 : Int32) (ou : Nat) {res : (Int32 × zS) ⊕ Nat} (hk_th : K th = 6) (hk_ou : K ou = 17) (hst : l.stackTraces = false) (hf : f_X6_leave K z c th p1 = some res) (herr : ∀ x, res = .inr x → x = 1 ∨ x = 3) : Met l yL_leave wsL_leave ({ frames := 8, cells := 2, slots := 12, locals := 144 }) (va_Pc [.ref th, .int p1, .ref ou] (zGW zts0 zns0 D cy base st K L (c, r, o))) (va_Qi (fun (rr : Int32) (u : zU) => (∃ (x : Int32) (c1 : zS), res = .inl (x, c1) ∧ rr = 0 ∧ u = (K, L, zul c1 170 ou 0 (Int32.toInt64 x))) ∨ (res = .inr 1 ∧ rr = 1 ∧ u = (K, L, c)) ∨ (res = .inr 3 ∧ rr = 2 ∧ u = (K, L, c))) (fun u => zB D cy base u.1 u.2.1 (u.2.2, r, o)) (zA base)) 2 12 (zA base) := by
  refine va_MetW (cc := cL_leave) (maxL := 4) (ret := (some .int)) (hh := [(0, 9, 12, 13), (0, 9, 15, 17)]) (by decide) rfl ?_
  intro p e s m args below meth cd s₁ B hml hv
  obtain ⟨rfl, hG⟩ := hv
  have hx := B.exec
  have hb := B.bytes
  have hr := B.returns
  have hts := atoms_spec (ws := wsL_leave) B.pre
  have htab := vx_table (x := yL_leave) B (hts _ List.mem_cons_self)
  have hown : s.vm.findClass RL = some m.cls := findClass_of_methodNamed B.named
  have hlocks := B.notSynchronized
  have hC := hG.enter
  have hK := hG.2.2.2.1
  have hCa := hG.2.2.2.2.2.2.2.2.2.1
  have hNc := hG.2.2.2.2.2.2.2.2.2.2.1
  have w0 := hts (.classLink RL 13 "java/lang/IndexOutOfBoundsException") (by decide +kernel)
  have w1 := hts (.classLink RL 17 "java/lang/IllegalStateException") (by decide +kernel)
  have hl := lv_entry ([.ref th, .int p1, .ref ou]) (n := 4) (Nat.le_of_ble_eq_true rfl)
  rw [lg_entry_eq]
  generalize (lg_sl ([.ref th, .int p1, .ref ou]) ++ List.replicate (4 - (lg_sl ([.ref th, .int p1, .ref ou])).length) Slot.unset).toArray = ls at hl ⊢
  have hl : lv_has ls 4 [(0, .ref th), (1, .int p1), (2, .ref ou)] := hl
  refine lv_aload_n hx hb dL_leave_0 rfl (lv_at hl 2 rfl) ?_
  refine lv_iconst (v := 0) hx hb dL_leave_1 (by decide) ?_
  refine lv_aload_n hx hb dL_leave_2 rfl (lv_at hl 0 rfl) ?_
  refine lv_iload_n hx hb dL_leave_3 rfl (lv_at hl 1 rfl) ?_
  refine z_xciW (z_rxV (As := [.int p1]) (rest := [.int 0, .ref ou]) ⟨hx, hb, hml, hown, hts⟩ (c_X6_leave (l := l) (D := D) (cy := cy) (base := base) (st := st) (K := K) (L := L) (c := c) (r := r) (o := o) (z := z) th p1 hk_th hst hf) (cwV 1 hts gL_leave_X6_leave rfl rfl rfl (by decide +kernel) ⟨(Nat.le_of_ble_eq_true rfl), (Nat.le_of_ble_eq_true rfl)⟩) hG hC (zC.recv (ci := 6) (fs := _) hK hC (by rw [hk_th]; decide) (by rw [hk_th]; exact zc_6 cy _ _) rfl) rfl hl.1 rfl (lv_room (Nat.le_of_ble_eq_true rfl)) dL_leave_4 ⟨(Nat.le_of_ble_eq_true rfl), (Nat.le_of_ble_eq_true rfl)⟩) hC (fun _ H locs q9 ce hq hC h1 h2 h3 => ?_) (fun x c1 H locs hq hC => ?_)
  · rcases herr _ hq with rfl | rfl
    · refine vx_catch (E := "java/lang/IndexOutOfBoundsException") (name := "java/lang/IndexOutOfBoundsException") hown [] ⟨0, 9, 12, 13⟩ [⟨0, 9, 15, 17⟩] (htab.trans rfl) (fun z hz => nomatch hz) (by decide) (by decide) w0 (va_Nw.use rfl (hCa _ (by decide +kernel))) h1 h2 h3 ?_
      refine lv_astore_n (lv' := [(3, .ref q9), (0, .ref th), (1, .int p1), (2, .ref ou)]) hx hb dL_leave_12 rfl hl (by decide) rfl (fun ls hl => ?_)
      refine lv_iconst (v := 1) hx hb dL_leave_13 (by decide) ?_
      refine W.widen (k := 2) (n := 12) (Nat.le_of_ble_eq_true rfl) (Nat.le_of_ble_eq_true rfl) ?_
      exact z_wret (u := (K, L, c)) hx hb hr hlocks hC (Or.inr (Or.inl ⟨hq, rfl, rfl⟩)) dL_leave_14
    · refine vx_catch (E := "java/lang/IllegalStateException") (name := "java/lang/IllegalStateException") hown [⟨0, 9, 12, 13⟩] ⟨0, 9, 15, 17⟩ [] (htab.trans rfl) (fun z hz => by simp only [List.mem_cons, List.not_mem_nil, or_false] at hz; subst hz; exact Or.inr ⟨by decide, _, w0, hNc "java/lang/IllegalStateException" (by decide +kernel) "java/lang/IndexOutOfBoundsException" (by decide +kernel) (by decide +kernel)⟩) (by decide) (by decide) w1 (va_Nw.use rfl (hCa _ (by decide +kernel))) h1 h2 h3 ?_
      refine lv_astore_n (lv' := [(3, .ref q9), (0, .ref th), (1, .int p1), (2, .ref ou)]) hx hb dL_leave_15 rfl hl (by decide) rfl (fun ls hl => ?_)
      refine lv_iconst (v := 2) hx hb dL_leave_16 (by decide) ?_
      refine W.widen (k := 2) (n := 12) (Nat.le_of_ble_eq_true rfl) (Nat.le_of_ble_eq_true rfl) ?_
      exact z_wret (u := (K, L, c)) hx hb hr hlocks hC (Or.inr (Or.inr (⟨hq, rfl, rfl⟩))) dL_leave_17
  · refine lv_i2l (v := Int32.toInt64 x) hx hb dL_leave_7 rfl ?_
    refine xp_17 (c1 := zul c1 170 ou 0 (Int32.toInt64 x)) hx hb hK hC hk_ou (by unfold vp_in; decide) rfl dL_leave_8 (fun H locs hC => ?_)
    refine lv_goto (tgt := 18) hx hb dL_leave_9 (by decide) ?_
    refine lv_iconst (v := 0) hx hb dL_leave_18 (by decide) ?_
    refine W.widen (k := 2) (n := 12) (Nat.le_of_ble_eq_true rfl) (Nat.le_of_ble_eq_true rfl) ?_
    exact z_wret (u := (K, L, zul c1 170 ou 0 (Int32.toInt64 x))) hx hb hr hlocks hC (Or.inl ⟨x, c1, hq, rfl, rfl⟩) dL_leave_19
set_option maxRecDepth 100000 in
set_option maxHeartbeats 4000000 in
theorem c_L_hour {l : Launch} {D : va_G} {cy : Nat → ClassId} {base : Nat} {st : Nat → Nat} {K : Nat → Nat} {L : List Nat} {c r : zS} {o : Int64} {z : Nat} (th : Nat) (p1 : Int32) {res : zS ⊕ Nat} (hk_th : K th = 6) (hst : l.stackTraces = false) (hf : f_X6_hour K z c th p1 = some res) (herr : ∀ x, res = .inr x → x = 2 ∨ x = 3) : Met l yL_hour wsL_hour ({ frames := 8, cells := 2, slots := 12, locals := 143 }) (va_Pc [.ref th, .int p1] (zGW zts0 zns0 D cy base st K L (c, r, o))) (va_Qi (fun (rr : Int32) (u : zU) => (∃ c1 : zS, res = .inl c1 ∧ rr = 0 ∧ u = (K, L, c1)) ∨ (res = .inr 2 ∧ rr = 1 ∧ u = (K, L, c)) ∨ (res = .inr 3 ∧ rr = 2 ∧ u = (K, L, c))) (fun u => zB D cy base u.1 u.2.1 (u.2.2, r, o)) (zA base)) 2 12 (zA base) := by
  refine va_MetW (cc := cL_hour) (maxL := 3) (ret := (some .int)) (hh := [(0, 5, 8, 15), (0, 5, 11, 17)]) (by decide) rfl ?_
  intro p e s m args below meth cd s₁ B hml hv
  obtain ⟨rfl, hG⟩ := hv
  have hx := B.exec
  have hb := B.bytes
  have hr := B.returns
  have hts := atoms_spec (ws := wsL_hour) B.pre
  have htab := vx_table (x := yL_hour) B (hts _ List.mem_cons_self)
  have hown : s.vm.findClass RL = some m.cls := findClass_of_methodNamed B.named
  have hlocks := B.notSynchronized
  have hC := hG.enter
  have hK := hG.2.2.2.1
  have hCa := hG.2.2.2.2.2.2.2.2.2.1
  have hNc := hG.2.2.2.2.2.2.2.2.2.2.1
  have w0 := hts (.classLink RL 15 "java/lang/IllegalArgumentException") (by decide +kernel)
  have w1 := hts (.classLink RL 17 "java/lang/IllegalStateException") (by decide +kernel)
  have hl := lv_entry ([.ref th, .int p1]) (n := 3) (Nat.le_of_ble_eq_true rfl)
  rw [lg_entry_eq]
  generalize (lg_sl ([.ref th, .int p1]) ++ List.replicate (3 - (lg_sl ([.ref th, .int p1])).length) Slot.unset).toArray = ls at hl ⊢
  have hl : lv_has ls 3 [(0, .ref th), (1, .int p1)] := hl
  refine lv_aload_n hx hb dL_hour_0 rfl (lv_at hl 0 rfl) ?_
  refine lv_iload_n hx hb dL_hour_1 rfl (lv_at hl 1 rfl) ?_
  refine z_xcvW (z_rxV (As := [.int p1]) (rest := []) ⟨hx, hb, hml, hown, hts⟩ (c_X6_hour (l := l) (D := D) (cy := cy) (base := base) (st := st) (K := K) (L := L) (c := c) (r := r) (o := o) (z := z) th p1 hk_th hst hf) (cwV 1 hts gL_hour_X6_hour rfl rfl rfl (by decide +kernel) ⟨(Nat.le_of_ble_eq_true rfl), (Nat.le_of_ble_eq_true rfl)⟩) hG hC (zC.recv (ci := 6) (fs := _) hK hC (by rw [hk_th]; decide) (by rw [hk_th]; exact zc_6 cy _ _) rfl) rfl hl.1 rfl (lv_room (Nat.le_of_ble_eq_true rfl)) dL_hour_2 ⟨(Nat.le_of_ble_eq_true rfl), (Nat.le_of_ble_eq_true rfl)⟩) hC (fun _ H locs q9 ce hq hC h1 h2 h3 => ?_) (fun c1 H locs hq hC => ?_)
  · rcases herr _ hq with rfl | rfl
    · refine vx_catch (E := "java/lang/IllegalArgumentException") (name := "java/lang/IllegalArgumentException") hown [] ⟨0, 5, 8, 15⟩ [⟨0, 5, 11, 17⟩] (htab.trans rfl) (fun z hz => nomatch hz) (by decide) (by decide) w0 (va_Nw.use rfl (hCa _ (by decide +kernel))) h1 h2 h3 ?_
      refine lv_astore_n (lv' := [(2, .ref q9), (0, .ref th), (1, .int p1)]) hx hb dL_hour_8 rfl hl (by decide) rfl (fun ls hl => ?_)
      refine lv_iconst (v := 1) hx hb dL_hour_9 (by decide) ?_
      refine W.widen (k := 2) (n := 12) (Nat.le_of_ble_eq_true rfl) (Nat.le_of_ble_eq_true rfl) ?_
      exact z_wret (u := (K, L, c)) hx hb hr hlocks hC (Or.inr (Or.inl ⟨hq, rfl, rfl⟩)) dL_hour_10
    · refine vx_catch (E := "java/lang/IllegalStateException") (name := "java/lang/IllegalStateException") hown [⟨0, 5, 8, 15⟩] ⟨0, 5, 11, 17⟩ [] (htab.trans rfl) (fun z hz => by simp only [List.mem_cons, List.not_mem_nil, or_false] at hz; subst hz; exact Or.inr ⟨by decide, _, w0, hNc "java/lang/IllegalStateException" (by decide +kernel) "java/lang/IllegalArgumentException" (by decide +kernel) (by decide +kernel)⟩) (by decide) (by decide) w1 (va_Nw.use rfl (hCa _ (by decide +kernel))) h1 h2 h3 ?_
      refine lv_astore_n (lv' := [(2, .ref q9), (0, .ref th), (1, .int p1)]) hx hb dL_hour_11 rfl hl (by decide) rfl (fun ls hl => ?_)
      refine lv_iconst (v := 2) hx hb dL_hour_12 (by decide) ?_
      refine W.widen (k := 2) (n := 12) (Nat.le_of_ble_eq_true rfl) (Nat.le_of_ble_eq_true rfl) ?_
      exact z_wret (u := (K, L, c)) hx hb hr hlocks hC (Or.inr (Or.inr (⟨hq, rfl, rfl⟩))) dL_hour_13
  · refine lv_goto (tgt := 14) hx hb dL_hour_5 (by decide) ?_
    refine lv_iconst (v := 0) hx hb dL_hour_14 (by decide) ?_
    refine W.widen (k := 2) (n := 12) (Nat.le_of_ble_eq_true rfl) (Nat.le_of_ble_eq_true rfl) ?_
    exact z_wret (u := (K, L, c1)) hx hb hr hlocks hC (Or.inl ⟨c1, hq, rfl, rfl⟩) dL_hour_15
set_option maxRecDepth 100000 in
set_option maxHeartbeats 4000000 in
theorem c_L_close {l : Launch} {D : va_G} {cy : Nat → ClassId} {base : Nat} {st : Nat → Nat} {K : Nat → Nat} {L : List Nat} {c r : zS} {o : Int64} {z : Nat} (th : Nat) (ou : Nat) {res : (Int32 × zS) ⊕ Nat} (hk_th : K th = 6) (hk_ou : K ou = 17) (hst : l.stackTraces = false) (hf : f_X6_close K z c th = some res) (herr : ∀ x, res = .inr x → x = 3) : Met l yL_close wsL_close ({ frames := 8, cells := 1, slots := 6, locals := 144 }) (va_Pc [.ref th, .ref ou] (zGW zts0 zns0 D cy base st K L (c, r, o))) (va_Qi (fun (rr : Int32) (u : zU) => (∃ (x : Int32) (c1 : zS), res = .inl (x, c1) ∧ rr = 0 ∧ u = (K, L, zul c1 170 ou 0 (Int32.toInt64 x))) ∨ (res = .inr 3 ∧ rr = 1 ∧ u = (K, L, c))) (fun u => zB D cy base u.1 u.2.1 (u.2.2, r, o)) (zA base)) 1 6 (zA base) := by
  refine va_MetW (cc := cL_close) (maxL := 3) (ret := (some .int)) (hh := [(0, 8, 11, 17)]) (by decide) rfl ?_
  intro p e s m args below meth cd s₁ B hml hv
  obtain ⟨rfl, hG⟩ := hv
  have hx := B.exec
  have hb := B.bytes
  have hr := B.returns
  have hts := atoms_spec (ws := wsL_close) B.pre
  have htab := vx_table (x := yL_close) B (hts _ List.mem_cons_self)
  have hown : s.vm.findClass RL = some m.cls := findClass_of_methodNamed B.named
  have hlocks := B.notSynchronized
  have hC := hG.enter
  have hK := hG.2.2.2.1
  have hCa := hG.2.2.2.2.2.2.2.2.2.1
  have hNc := hG.2.2.2.2.2.2.2.2.2.2.1
  have w0 := hts (.classLink RL 17 "java/lang/IllegalStateException") (by decide +kernel)
  have hl := lv_entry ([.ref th, .ref ou]) (n := 3) (Nat.le_of_ble_eq_true rfl)
  rw [lg_entry_eq]
  generalize (lg_sl ([.ref th, .ref ou]) ++ List.replicate (3 - (lg_sl ([.ref th, .ref ou])).length) Slot.unset).toArray = ls at hl ⊢
  have hl : lv_has ls 3 [(0, .ref th), (1, .ref ou)] := hl
  refine lv_aload_n hx hb dL_close_0 rfl (lv_at hl 1 rfl) ?_
  refine lv_iconst (v := 0) hx hb dL_close_1 (by decide) ?_
  refine lv_aload_n hx hb dL_close_2 rfl (lv_at hl 0 rfl) ?_
  refine z_xciW (z_rxV (As := []) (rest := [.int 0, .ref ou]) ⟨hx, hb, hml, hown, hts⟩ (c_X6_close (l := l) (D := D) (cy := cy) (base := base) (st := st) (K := K) (L := L) (c := c) (r := r) (o := o) (z := z) th hk_th hst hf) (cwV 0 hts gL_close_X6_close rfl rfl rfl (by decide +kernel) ⟨(Nat.le_of_ble_eq_true rfl), (Nat.le_of_ble_eq_true rfl)⟩) hG hC (zC.recv (ci := 6) (fs := _) hK hC (by rw [hk_th]; decide) (by rw [hk_th]; exact zc_6 cy _ _) rfl) rfl hl.1 rfl (lv_room (Nat.le_of_ble_eq_true rfl)) dL_close_3 ⟨(Nat.le_of_ble_eq_true rfl), (Nat.le_of_ble_eq_true rfl)⟩) hC (fun _ H locs q9 ce hq hC h1 h2 h3 => ?_) (fun x c1 H locs hq hC => ?_)
  · have e1 := herr _ hq
    subst e1
    refine vx_catch (E := "java/lang/IllegalStateException") (name := "java/lang/IllegalStateException") hown [] ⟨0, 8, 11, 17⟩ [] (htab.trans rfl) (fun z hz => nomatch hz) (by decide) (by decide) w0 (va_Nw.use rfl (hCa _ (by decide +kernel))) h1 h2 h3 ?_
    refine lv_astore_n (lv' := [(2, .ref q9), (0, .ref th), (1, .ref ou)]) hx hb dL_close_11 rfl hl (by decide) rfl (fun ls hl => ?_)
    refine lv_iconst (v := 1) hx hb dL_close_12 (by decide) ?_
    refine W.widen (k := 1) (n := 6) (Nat.le_of_ble_eq_true rfl) (Nat.le_of_ble_eq_true rfl) ?_
    exact z_wret (u := (K, L, c)) hx hb hr hlocks hC (Or.inr (⟨hq, rfl, rfl⟩)) dL_close_13
  · refine lv_i2l (v := Int32.toInt64 x) hx hb dL_close_6 rfl ?_
    refine xp_17 (c1 := zul c1 170 ou 0 (Int32.toInt64 x)) hx hb hK hC hk_ou (by unfold vp_in; decide) rfl dL_close_7 (fun H locs hC => ?_)
    refine lv_goto (tgt := 14) hx hb dL_close_8 (by decide) ?_
    refine lv_iconst (v := 0) hx hb dL_close_14 (by decide) ?_
    refine W.widen (k := 1) (n := 6) (Nat.le_of_ble_eq_true rfl) (Nat.le_of_ble_eq_true rfl) ?_
    exact z_wret (u := (K, L, zul c1 170 ou 0 (Int32.toInt64 x))) hx hb hr hlocks hC (Or.inl ⟨x, c1, hq, rfl, rfl⟩) dL_close_15
set_option maxRecDepth 100000 in
set_option maxHeartbeats 4000000 in
theorem c_L_pay {l : Launch} {D : va_G} {cy : Nat → ClassId} {base : Nat} {st : Nat → Nat} {K : Nat → Nat} {L : List Nat} {c r : zS} {o : Int64} {z : Nat} (th : Nat) (p1 : Int32) (p2 : Int64) (ou : Nat) {res : (Int64 × zS) ⊕ Nat} (hk_th : K th = 6) (hk_ou : K ou = 17) (hst : l.stackTraces = false) (hf : f_X6_pay K z c th p1 p2 = some res) (herr : ∀ x, res = .inr x → x = 1 ∨ x = 2) : Met l yL_pay wsL_pay ({ frames := 8, cells := 2, slots := 12, locals := 146 }) (va_Pc [.ref th, .int p1, .long p2, .ref ou] (zGW zts0 zns0 D cy base st K L (c, r, o))) (va_Qi (fun (rr : Int32) (u : zU) => (∃ (x : Int64) (c1 : zS), res = .inl (x, c1) ∧ rr = 0 ∧ u = (K, L, zul c1 170 ou 0 x)) ∨ (res = .inr 1 ∧ rr = 1 ∧ u = (K, L, c)) ∨ (res = .inr 2 ∧ rr = 2 ∧ u = (K, L, c))) (fun u => zB D cy base u.1 u.2.1 (u.2.2, r, o)) (zA base)) 2 12 (zA base) := by
  refine va_MetW (cc := cL_pay) (maxL := 6) (ret := (some .int)) (hh := [(0, 10, 13, 13), (0, 10, 17, 15)]) (by decide) rfl ?_
  intro p e s m args below meth cd s₁ B hml hv
  obtain ⟨rfl, hG⟩ := hv
  have hx := B.exec
  have hb := B.bytes
  have hr := B.returns
  have hts := atoms_spec (ws := wsL_pay) B.pre
  have htab := vx_table (x := yL_pay) B (hts _ List.mem_cons_self)
  have hown : s.vm.findClass RL = some m.cls := findClass_of_methodNamed B.named
  have hlocks := B.notSynchronized
  have hC := hG.enter
  have hK := hG.2.2.2.1
  have hCa := hG.2.2.2.2.2.2.2.2.2.1
  have hNc := hG.2.2.2.2.2.2.2.2.2.2.1
  have w0 := hts (.classLink RL 13 "java/lang/IndexOutOfBoundsException") (by decide +kernel)
  have w1 := hts (.classLink RL 15 "java/lang/IllegalArgumentException") (by decide +kernel)
  have hl := lv_entry ([.ref th, .int p1, .long p2, .ref ou]) (n := 6) (Nat.le_of_ble_eq_true rfl)
  rw [lg_entry_eq]
  generalize (lg_sl ([.ref th, .int p1, .long p2, .ref ou]) ++ List.replicate (6 - (lg_sl ([.ref th, .int p1, .long p2, .ref ou])).length) Slot.unset).toArray = ls at hl ⊢
  have hl : lv_has ls 6 [(0, .ref th), (1, .int p1), (2, .long p2), (4, .ref ou)] := hl
  refine lv_aload hx hb dL_pay_0 (lv_at hl 3 rfl) ?_
  refine lv_iconst (v := 0) hx hb dL_pay_2 (by decide) ?_
  refine lv_aload_n hx hb dL_pay_3 rfl (lv_at hl 0 rfl) ?_
  refine lv_iload_n hx hb dL_pay_4 rfl (lv_at hl 1 rfl) ?_
  refine lv_lload_n hx hb dL_pay_5 rfl (lv_at hl 2 rfl) ?_
  refine z_xclW (z_rxV (As := [.int p1, .long p2]) (rest := [.int 0, .ref ou]) ⟨hx, hb, hml, hown, hts⟩ (c_X6_pay (l := l) (D := D) (cy := cy) (base := base) (st := st) (K := K) (L := L) (c := c) (r := r) (o := o) (z := z) th p1 p2 hk_th hst hf) (cwV 2 hts gL_pay_X6_pay rfl rfl rfl (by decide +kernel) ⟨(Nat.le_of_ble_eq_true rfl), (Nat.le_of_ble_eq_true rfl)⟩) hG hC (zC.recv (ci := 6) (fs := _) hK hC (by rw [hk_th]; decide) (by rw [hk_th]; exact zc_6 cy _ _) rfl) rfl hl.1 rfl (lv_room (Nat.le_of_ble_eq_true rfl)) dL_pay_6 ⟨(Nat.le_of_ble_eq_true rfl), (Nat.le_of_ble_eq_true rfl)⟩) hC (fun _ H locs q9 ce hq hC h1 h2 h3 => ?_) (fun x c1 H locs hq hC => ?_)
  · rcases herr _ hq with rfl | rfl
    · refine vx_catch (E := "java/lang/IndexOutOfBoundsException") (name := "java/lang/IndexOutOfBoundsException") hown [] ⟨0, 10, 13, 13⟩ [⟨0, 10, 17, 15⟩] (htab.trans rfl) (fun z hz => nomatch hz) (by decide) (by decide) w0 (va_Nw.use rfl (hCa _ (by decide +kernel))) h1 h2 h3 ?_
      refine lv_astore (lv' := [(5, .ref q9), (0, .ref th), (1, .int p1), (2, .long p2), (4, .ref ou)]) hx hb dL_pay_13 hl (by decide) rfl (fun ls hl => ?_)
      refine lv_iconst (v := 1) hx hb dL_pay_15 (by decide) ?_
      refine W.widen (k := 2) (n := 12) (Nat.le_of_ble_eq_true rfl) (Nat.le_of_ble_eq_true rfl) ?_
      exact z_wret (u := (K, L, c)) hx hb hr hlocks hC (Or.inr (Or.inl ⟨hq, rfl, rfl⟩)) dL_pay_16
    · refine vx_catch (E := "java/lang/IllegalArgumentException") (name := "java/lang/IllegalArgumentException") hown [⟨0, 10, 13, 13⟩] ⟨0, 10, 17, 15⟩ [] (htab.trans rfl) (fun z hz => by simp only [List.mem_cons, List.not_mem_nil, or_false] at hz; subst hz; exact Or.inr ⟨by decide, _, w0, hNc "java/lang/IllegalArgumentException" (by decide +kernel) "java/lang/IndexOutOfBoundsException" (by decide +kernel) (by decide +kernel)⟩) (by decide) (by decide) w1 (va_Nw.use rfl (hCa _ (by decide +kernel))) h1 h2 h3 ?_
      refine lv_astore (lv' := [(5, .ref q9), (0, .ref th), (1, .int p1), (2, .long p2), (4, .ref ou)]) hx hb dL_pay_17 hl (by decide) rfl (fun ls hl => ?_)
      refine lv_iconst (v := 2) hx hb dL_pay_19 (by decide) ?_
      refine W.widen (k := 2) (n := 12) (Nat.le_of_ble_eq_true rfl) (Nat.le_of_ble_eq_true rfl) ?_
      exact z_wret (u := (K, L, c)) hx hb hr hlocks hC (Or.inr (Or.inr (⟨hq, rfl, rfl⟩))) dL_pay_20
  · refine xp_17 (c1 := zul c1 170 ou 0 x) hx hb hK hC hk_ou (by unfold vp_in; decide) rfl dL_pay_9 (fun H locs hC => ?_)
    refine lv_goto (tgt := 21) hx hb dL_pay_10 (by decide) ?_
    refine lv_iconst (v := 0) hx hb dL_pay_21 (by decide) ?_
    refine W.widen (k := 2) (n := 12) (Nat.le_of_ble_eq_true rfl) (Nat.le_of_ble_eq_true rfl) ?_
    exact z_wret (u := (K, L, zul c1 170 ou 0 x)) hx hb hr hlocks hC (Or.inl ⟨x, c1, hq, rfl, rfl⟩) dL_pay_22
set_option maxRecDepth 100000 in
set_option maxHeartbeats 4000000 in
theorem c_L_look {l : Launch} {D : va_G} {cy : Nat → ClassId} {base : Nat} {st : Nat → Nat} {K : Nat → Nat} {L : List Nat} {c r : zS} {o : Int64} {z : Nat} (th : Nat) (p1 : Int32) (p2 : Int32) (ou : Nat) {res : Int32 ⊕ Nat} (hk_th : K th = 6) (hk_ou : K ou = 17) (hst : l.stackTraces = false) (hf : f_X6_look K z c th p1 p2 = some res) (herr : ∀ x, res = .inr x → x = 1 ∨ x = 2) : Met l yL_look wsL_look ({ frames := 8, cells := 2, slots := 12, locals := 145 }) (va_Pc [.ref th, .int p1, .int p2, .ref ou] (zGW zts0 zns0 D cy base st K L (c, r, o))) (va_Qi (fun (rr : Int32) (u : zU) => (∃ x : Int32, res = .inl x ∧ rr = 0 ∧ u = (K, L, zul c 170 ou 0 (Int32.toInt64 x))) ∨ (res = .inr 1 ∧ rr = 1 ∧ u = (K, L, c)) ∨ (res = .inr 2 ∧ rr = 2 ∧ u = (K, L, c))) (fun u => zB D cy base u.1 u.2.1 (u.2.2, r, o)) (zA base)) 2 12 (zA base) := by
  refine va_MetW (cc := cL_look) (maxL := 5) (ret := (some .int)) (hh := [(0, 10, 13, 13), (0, 10, 17, 15)]) (by decide) rfl ?_
  intro p e s m args below meth cd s₁ B hml hv
  obtain ⟨rfl, hG⟩ := hv
  have hx := B.exec
  have hb := B.bytes
  have hr := B.returns
  have hts := atoms_spec (ws := wsL_look) B.pre
  have htab := vx_table (x := yL_look) B (hts _ List.mem_cons_self)
  have hown : s.vm.findClass RL = some m.cls := findClass_of_methodNamed B.named
  have hlocks := B.notSynchronized
  have hC := hG.enter
  have hK := hG.2.2.2.1
  have hCa := hG.2.2.2.2.2.2.2.2.2.1
  have hNc := hG.2.2.2.2.2.2.2.2.2.2.1
  have w0 := hts (.classLink RL 13 "java/lang/IndexOutOfBoundsException") (by decide +kernel)
  have w1 := hts (.classLink RL 15 "java/lang/IllegalArgumentException") (by decide +kernel)
  have hl := lv_entry ([.ref th, .int p1, .int p2, .ref ou]) (n := 5) (Nat.le_of_ble_eq_true rfl)
  rw [lg_entry_eq]
  generalize (lg_sl ([.ref th, .int p1, .int p2, .ref ou]) ++ List.replicate (5 - (lg_sl ([.ref th, .int p1, .int p2, .ref ou])).length) Slot.unset).toArray = ls at hl ⊢
  have hl : lv_has ls 5 [(0, .ref th), (1, .int p1), (2, .int p2), (3, .ref ou)] := hl
  refine lv_aload_n hx hb dL_look_0 rfl (lv_at hl 3 rfl) ?_
  refine lv_iconst (v := 0) hx hb dL_look_1 (by decide) ?_
  refine lv_aload_n hx hb dL_look_2 rfl (lv_at hl 0 rfl) ?_
  refine lv_iload_n hx hb dL_look_3 rfl (lv_at hl 1 rfl) ?_
  refine lv_iload_n hx hb dL_look_4 rfl (lv_at hl 2 rfl) ?_
  refine z_xci (z_rxV (As := [.int p1, .int p2]) (rest := [.int 0, .ref ou]) ⟨hx, hb, hml, hown, hts⟩ (c_X6_look (l := l) (D := D) (cy := cy) (base := base) (st := st) (K := K) (L := L) (c := c) (r := r) (o := o) (z := z) th p1 p2 hk_th hst hf) (cwV 2 hts gL_look_X6_look rfl rfl rfl (by decide +kernel) ⟨(Nat.le_of_ble_eq_true rfl), (Nat.le_of_ble_eq_true rfl)⟩) hG hC (zC.recv (ci := 6) (fs := _) hK hC (by rw [hk_th]; decide) (by rw [hk_th]; exact zc_6 cy _ _) rfl) rfl hl.1 rfl (lv_room (Nat.le_of_ble_eq_true rfl)) dL_look_5 ⟨(Nat.le_of_ble_eq_true rfl), (Nat.le_of_ble_eq_true rfl)⟩) hC (fun _ H locs q9 ce hq hC h1 h2 h3 => ?_) (fun x H locs hq hC => ?_)
  · rcases herr _ hq with rfl | rfl
    · refine vx_catch (E := "java/lang/IndexOutOfBoundsException") (name := "java/lang/IndexOutOfBoundsException") hown [] ⟨0, 10, 13, 13⟩ [⟨0, 10, 17, 15⟩] (htab.trans rfl) (fun z hz => nomatch hz) (by decide) (by decide) w0 (va_Nw.use rfl (hCa _ (by decide +kernel))) h1 h2 h3 ?_
      refine lv_astore (lv' := [(4, .ref q9), (0, .ref th), (1, .int p1), (2, .int p2), (3, .ref ou)]) hx hb dL_look_13 hl (by decide) rfl (fun ls hl => ?_)
      refine lv_iconst (v := 1) hx hb dL_look_15 (by decide) ?_
      refine W.widen (k := 2) (n := 12) (Nat.le_of_ble_eq_true rfl) (Nat.le_of_ble_eq_true rfl) ?_
      exact z_wret (u := (K, L, c)) hx hb hr hlocks hC (Or.inr (Or.inl ⟨hq, rfl, rfl⟩)) dL_look_16
    · refine vx_catch (E := "java/lang/IllegalArgumentException") (name := "java/lang/IllegalArgumentException") hown [⟨0, 10, 13, 13⟩] ⟨0, 10, 17, 15⟩ [] (htab.trans rfl) (fun z hz => by simp only [List.mem_cons, List.not_mem_nil, or_false] at hz; subst hz; exact Or.inr ⟨by decide, _, w0, hNc "java/lang/IllegalArgumentException" (by decide +kernel) "java/lang/IndexOutOfBoundsException" (by decide +kernel) (by decide +kernel)⟩) (by decide) (by decide) w1 (va_Nw.use rfl (hCa _ (by decide +kernel))) h1 h2 h3 ?_
      refine lv_astore (lv' := [(4, .ref q9), (0, .ref th), (1, .int p1), (2, .int p2), (3, .ref ou)]) hx hb dL_look_17 hl (by decide) rfl (fun ls hl => ?_)
      refine lv_iconst (v := 2) hx hb dL_look_19 (by decide) ?_
      refine W.widen (k := 2) (n := 12) (Nat.le_of_ble_eq_true rfl) (Nat.le_of_ble_eq_true rfl) ?_
      exact z_wret (u := (K, L, c)) hx hb hr hlocks hC (Or.inr (Or.inr (⟨hq, rfl, rfl⟩))) dL_look_20
  · refine lv_i2l (v := Int32.toInt64 x) hx hb dL_look_8 rfl ?_
    refine xp_17 (c1 := zul c 170 ou 0 (Int32.toInt64 x)) hx hb hK hC hk_ou (by unfold vp_in; decide) rfl dL_look_9 (fun H locs hC => ?_)
    refine lv_goto (tgt := 21) hx hb dL_look_10 (by decide) ?_
    refine lv_iconst (v := 0) hx hb dL_look_21 (by decide) ?_
    refine W.widen (k := 2) (n := 12) (Nat.le_of_ble_eq_true rfl) (Nat.le_of_ble_eq_true rfl) ?_
    exact z_wret (u := (K, L, zul c 170 ou 0 (Int32.toInt64 x))) hx hb hr hlocks hC (Or.inl ⟨x, hq, rfl, rfl⟩) dL_look_22
set_option maxRecDepth 100000 in
set_option maxHeartbeats 4000000 in
theorem c_L_owed {l : Launch} {D : va_G} {cy : Nat → ClassId} {base : Nat} {st : Nat → Nat} {K : Nat → Nat} {L : List Nat} {c r : zS} {o : Int64} {z : Nat} (th : Nat) (p1 : Int32) (ou : Nat) {res : Int64 ⊕ Nat} (hk_th : K th = 6) (hk_ou : K ou = 17) (hst : l.stackTraces = false) (hf : f_X6_owed K z c th p1 = some res) (herr : ∀ x, res = .inr x → x = 1) : Met l yL_owed wsL_owed ({ frames := 8, cells := 1, slots := 6, locals := 143 }) (va_Pc [.ref th, .int p1, .ref ou] (zGW zts0 zns0 D cy base st K L (c, r, o))) (va_Qi (fun (rr : Int32) (u : zU) => (∃ x : Int64, res = .inl x ∧ rr = 0 ∧ u = (K, L, zul c 170 ou 0 x)) ∨ (res = .inr 1 ∧ rr = 1 ∧ u = (K, L, c))) (fun u => zB D cy base u.1 u.2.1 (u.2.2, r, o)) (zA base)) 1 6 (zA base) := by
  refine va_MetW (cc := cL_owed) (maxL := 4) (ret := (some .int)) (hh := [(0, 8, 11, 13)]) (by decide) rfl ?_
  intro p e s m args below meth cd s₁ B hml hv
  obtain ⟨rfl, hG⟩ := hv
  have hx := B.exec
  have hb := B.bytes
  have hr := B.returns
  have hts := atoms_spec (ws := wsL_owed) B.pre
  have htab := vx_table (x := yL_owed) B (hts _ List.mem_cons_self)
  have hown : s.vm.findClass RL = some m.cls := findClass_of_methodNamed B.named
  have hlocks := B.notSynchronized
  have hC := hG.enter
  have hK := hG.2.2.2.1
  have hCa := hG.2.2.2.2.2.2.2.2.2.1
  have hNc := hG.2.2.2.2.2.2.2.2.2.2.1
  have w0 := hts (.classLink RL 13 "java/lang/IndexOutOfBoundsException") (by decide +kernel)
  have hl := lv_entry ([.ref th, .int p1, .ref ou]) (n := 4) (Nat.le_of_ble_eq_true rfl)
  rw [lg_entry_eq]
  generalize (lg_sl ([.ref th, .int p1, .ref ou]) ++ List.replicate (4 - (lg_sl ([.ref th, .int p1, .ref ou])).length) Slot.unset).toArray = ls at hl ⊢
  have hl : lv_has ls 4 [(0, .ref th), (1, .int p1), (2, .ref ou)] := hl
  refine lv_aload_n hx hb dL_owed_0 rfl (lv_at hl 2 rfl) ?_
  refine lv_iconst (v := 0) hx hb dL_owed_1 (by decide) ?_
  refine lv_aload_n hx hb dL_owed_2 rfl (lv_at hl 0 rfl) ?_
  refine lv_iload_n hx hb dL_owed_3 rfl (lv_at hl 1 rfl) ?_
  refine z_xcl (z_rxV (As := [.int p1]) (rest := [.int 0, .ref ou]) ⟨hx, hb, hml, hown, hts⟩ (c_X6_owed (l := l) (D := D) (cy := cy) (base := base) (st := st) (K := K) (L := L) (c := c) (r := r) (o := o) (z := z) th p1 hk_th hst hf) (cwV 1 hts gL_owed_X6_owed rfl rfl rfl (by decide +kernel) ⟨(Nat.le_of_ble_eq_true rfl), (Nat.le_of_ble_eq_true rfl)⟩) hG hC (zC.recv (ci := 6) (fs := _) hK hC (by rw [hk_th]; decide) (by rw [hk_th]; exact zc_6 cy _ _) rfl) rfl hl.1 rfl (lv_room (Nat.le_of_ble_eq_true rfl)) dL_owed_4 ⟨(Nat.le_of_ble_eq_true rfl), (Nat.le_of_ble_eq_true rfl)⟩) hC (fun _ H locs q9 ce hq hC h1 h2 h3 => ?_) (fun x H locs hq hC => ?_)
  · have e1 := herr _ hq
    subst e1
    refine vx_catch (E := "java/lang/IndexOutOfBoundsException") (name := "java/lang/IndexOutOfBoundsException") hown [] ⟨0, 8, 11, 13⟩ [] (htab.trans rfl) (fun z hz => nomatch hz) (by decide) (by decide) w0 (va_Nw.use rfl (hCa _ (by decide +kernel))) h1 h2 h3 ?_
    refine lv_astore_n (lv' := [(3, .ref q9), (0, .ref th), (1, .int p1), (2, .ref ou)]) hx hb dL_owed_11 rfl hl (by decide) rfl (fun ls hl => ?_)
    refine lv_iconst (v := 1) hx hb dL_owed_12 (by decide) ?_
    refine W.widen (k := 1) (n := 6) (Nat.le_of_ble_eq_true rfl) (Nat.le_of_ble_eq_true rfl) ?_
    exact z_wret (u := (K, L, c)) hx hb hr hlocks hC (Or.inr (⟨hq, rfl, rfl⟩)) dL_owed_13
  · refine xp_17 (c1 := zul c 170 ou 0 x) hx hb hK hC hk_ou (by unfold vp_in; decide) rfl dL_owed_7 (fun H locs hC => ?_)
    refine lv_goto (tgt := 14) hx hb dL_owed_8 (by decide) ?_
    refine lv_iconst (v := 0) hx hb dL_owed_14 (by decide) ?_
    refine W.widen (k := 1) (n := 6) (Nat.le_of_ble_eq_true rfl) (Nat.le_of_ble_eq_true rfl) ?_
    exact z_wret (u := (K, L, zul c 170 ou 0 x)) hx hb hr hlocks hC (Or.inl ⟨x, hq, rfl, rfl⟩) dL_owed_15
