/-! THE CLAIM OUT OF ONE WALK OF THE LAW'S BODY. Your part is whole_start (and what it stands on); all else here is the same for every law, but numbers. -/
def R_law : String := "MarketSquareLaw"
def lw_P (b : Addr) (xs : List Int32) (args : Array Value) (s : State) : Prop := args = #[.ref b] ∧ s.IntsAt b xs ∧ xs.length ≤ 2560 ∧ (Jvm.Cond.and given_1 narrow_1).before args s = true
def lw_Q (_ : Array Value) (s : State) (o : Outcome) (t : State) : Prop := o = .returned (some (.int 1)) ∧ Framed s o t [] 601024 7293034
def lw_Z (below : List Frame) (a : Array Value) (s : State) : State → Prop := fun t => ∃ o, t.status = .running ∧ Ended t below o ∧ lw_Q a s o t
/-- the law's own end, with 1 on the stack, nothing written that was there before, its room as the claim has it -/
theorem lw_ret {p : Program} {l : Launch} {e : Env} {s : State} {m : MethodId} {below : List Frame} {meth : Method} {c : Code} {b : Nat} (hx : p.tables.exec = Jvm.exec) (hb : c.code = code) (hr : meth.sig.returnType = ret) (hlocks : meth.locks = false) {pc : Nat} {H : Heap} {ls : Array Slot} (hdg : decode code pc = .ok (.ireturn, 1)) : W p l e room_1 s m #[Value.ref b] below meth c H [] 601024 7293034 (lw_Z below #[Value.ref b] s) (F0 m pc ls [.int 1]) := by
  intro T hT X
  obtain ⟨fs, hret, hrun, hended, hW, hframe⟩ := X.leave (v := some (.int 1)) (hlocks := hlocks) (fun h => by rw [hr] at h; cases h)
  have hmeth' : T.vm.method? m = some meth := X.method'
  refine ⟨T.setFrames fs, ?_, .returned (some (.int 1)), hrun, hended, rfl, ⟨_, rfl⟩, hW, hframe⟩
  jvm_step X.here [X.here.top, hx, hb, hdg, hmeth', hr, ret, narrow_b1]
  (try refine ⟨rfl, ?_⟩); (try refine ⟨rfl, ?_⟩)
  first | (intro acts; rw [hret _ acts rfl rfl rfl]) | rw [hret _ _ rfl rfl rfl]
  exact Steps.refl _
/-- what holds at the law's entry: the machine, the code, the tables' words (any of lw_tbl by 'hts w (by decide +kernel)'), the script of L ints xs at the cell b, what the Statement gives of the start (any of its parts by flat_of_before) -/
def lw_At (p : Program) (s : State) (m : MethodId) (meth : Method) (c : Code) (b L : Nat) (xs : Nat → Int32) : Prop :=
  p.tables.exec = Jvm.exec ∧ c.code = code ∧ meth.sig.returnType = ret ∧ c.maxLocals = 8 ∧ s.vm.findClass R_law = some m.cls ∧ (∀ w ∈ lw_tbl, w.before #[Value.ref b] s = true) ∧ va_X b L xs s s.heap ∧ b < s.heap.size ∧ meth.locks = false ∧ (Jvm.Cond.and given_1 narrow_1).before #[Value.ref b] s = true
section ZLAW
variable {p : Program} {l : Launch} {e : Env} {R : Room} {s : State} {m : MethodId} {args : Array Value} {below : List Frame} {meth : Method} {cd : Code} {H : Heap} {locs : List Loc} {cells slots : Nat} {Q : State → Prop}
variable {cc : ByteArray} {pc : Nat} {ls : Array Slot} {rest st0 : List Value} {D : va_G} {cy : Nat → ClassId} {base : Nat} {K K' : Nat → Nat} {L L' : List Nat} {Z Z' Z0 : zW} {st : Nat → Nat} {mc ms : Nat} {c r : zS} {o : Int64}
variable {zts : List (String × Nat × String)} {zns : List (String × Nat × MethodName × String)}
theorem z_bi {x : Int32} {off off2 : Int} {t0 t1 : Nat} (hx : p.tables.exec = Jvm.exec) (hb : cd.code = cc) (d1 : decode cc pc = .ok (.ifCond .eq off, 3)) (h0 : (pc : Int) + off = (t0 : Int)) (d2 : decode cc (pc + 3) = .ok (.iconst 1, 1)) (d3 : decode cc (pc + 3 + 1) = .ok (.goto off2, 3)) (h1 : ((pc + 3 + 1 : Nat) : Int) + off2 = (t1 : Int)) (d4 : decode cc t0 = .ok (.iconst 0, 1)) (h01 : t0 + 1 = t1) (k : W p l e R s m args below meth cd H locs cells slots Q (F0 m t1 ls (.int (if x = 0 then 0 else 1) :: rest))) : W p l e R s m args below meth cd H locs cells slots Q (F0 m pc ls (.int x :: rest)) := by
  subst h01
  refine lv_if_eq (tgt := t0) hx hb d1 h0 (fun h => ?_) (fun h => ?_)
  · rw [if_pos h] at k
    exact lv_iconst (v := 0) hx hb d4 (by decide) k
  · rw [if_neg h] at k
    exact lv_iconst (v := 1) hx hb d2 (by decide) (lv_goto (tgt := t0 + 1) hx hb d3 h1 k)
theorem z_bl {x : Int32} {off off2 : Int} {t0 t1 : Nat} (hx : p.tables.exec = Jvm.exec) (hb : cd.code = cc) (d1 : decode cc pc = .ok (.ifCond .eq off, 3)) (h0 : (pc : Int) + off = (t0 : Int)) (d2 : decode cc (pc + 3) = .ok (.lconst 1, 1)) (d3 : decode cc (pc + 3 + 1) = .ok (.goto off2, 3)) (h1 : ((pc + 3 + 1 : Nat) : Int) + off2 = (t1 : Int)) (d4 : decode cc t0 = .ok (.lconst 0, 1)) (h01 : t0 + 1 = t1) (k : W p l e R s m args below meth cd H locs cells slots Q (F0 m t1 ls (.long (if x = 0 then 0 else 1) :: rest))) : W p l e R s m args below meth cd H locs cells slots Q (F0 m pc ls (.int x :: rest)) := by
  subst h01
  refine lv_if_eq (tgt := t0) hx hb d1 h0 (fun h => ?_) (fun h => ?_)
  · rw [if_pos h] at k
    exact lv_lconst (v := 0) hx hb d4 (by decide) k
  · rw [if_neg h] at k
    exact lv_lconst (v := 1) hx hb d2 (by decide) (lv_goto (tgt := t0 + 1) hx hb d3 h1 k)
theorem z_cmp {a b : Int64} (h : a = b) : lg_cmp a b = 0 := by subst h; unfold lg_cmp; simp
theorem z_bound {Lx j : Nat} (hL : Lx ≤ 2560) (hj : 5 * j ≤ Lx) (h : ¬ nI Lx - 5 < nI (5 * j)) : 5 * j + 5 ≤ Lx := by
  rcases Nat.lt_or_ge Lx (5 * j + 5) with q | q
  · refine absurd ?_ h
    have h1 := pk_sub_toInt (a := Lx) (b := 5) (by omega) (by decide)
    have h2 := nI_toInt (n := 5 * j) (by omega)
    rw [Int32.lt_iff_toInt_lt, show (5 : Int32) = nI 5 from rfl, h1, h2]
    omega
  · exact q
theorem z_rW {y : MethodName} {bytes : ByteArray} {maxL nL n index : Nat} {ret : Option FieldType} {hh : List (Nat × Nat × Nat × Nat)} {ws : List Cond} {rm : Room} {Qc : Array Value → State → Outcome → State → Prop} {free : Addr → Prop} {Ts : List Cond} {own : String} {As : List Value} (S : CallFix p m cd cc nL s args Ts own) (hM : Met l y ws rm (va_Pc As (zGW zts zns D cy base st K L Z)) Qc mc ms free) (cw : vx_CSW R s args own index y bytes maxL ret hh ws rm mc ms n) (hG : zGW zts zns D cy base st K' L' Z0 s) (hC : zC D cy base K L Z s.heap H locs) (hn : As.length = n) (hsize : ls.size = nL) (hst : st0 = As.reverse ++ rest) (hW : 2 * (F0 m pc ls st0).monitorRoom + (rest.map fun v => v.category).sum ≤ 8) (hdg : decode cc pc = .ok (.invokestatic index, 3)) (hf : cells + mc ≤ R.cells ∧ slots + ms ≤ R.slots) :
    va_Run p l e R s m args below meth cd H locs cells slots mc ms (F0 m pc ls st0) rest (Qc As.toArray) free :=
  vx_runSW S hM cw ⟨zGW.blind, fun U hU hW => ⟨rfl, hG.at hC hU hW⟩⟩ rfl hn hsize hst hW hdg hf
theorem z_wcall {av : Array Value} {P : Int32 → zU → Prop} (hr : va_Run p l e R s m args below meth cd H locs cells slots mc ms (F0 m pc ls st0) rest (va_Qi (fun (rr : Int32) (u : zU) => P rr u) (fun u => zB D cy base u.1 u.2.1 (u.2.2, r, o)) (zA base) av) (zA base)) (hC : zC D cy base K L Z s.heap H locs)
    (kk : ∀ (rr : Int32) (u : zU) (H1 : Heap) (locs1 : List Loc), P rr u → zC D cy base u.1 u.2.1 (u.2.2, r, o) s.heap H1 locs1 → W p l e R s m args below meth cd H1 locs1 (cells + mc) (slots + ms) Q (F0 m (pc + 3) ls (.int rr :: rest))) : W p l e R s m args below meth cd H locs cells slots Q (F0 m pc ls st0) :=
  va_calli hr hC.2.2.1 (fun q _ h => h) (fun q h => h) (fun rr u t H1 locs1 ht hvm hp hB hz hk hS => kk rr u H1 locs1 hp ⟨by rw [← ht]; exact hB.1, hB.2.1, hS, hB.2.2⟩)
end ZLAW































set_option maxHeartbeats 16000000 in
set_option maxRecDepth 100000 in
/-- THE LAW'S LOOP, over what is said of each kind of call -/
theorem law_loop {p : Program} {l : Launch} {e : Env} {s : State} {m : MethodId} {below : List Frame} {meth : Method} {cd : Code} {D : va_G} {cy : Nat → ClassId} {stx : Nat → Nat} {K0 : Nat → Nat} {L0 : List Nat} {Z0 : zW} {o : Int64} {b Lx : Nat} {xs : Nat → Int32} (hst : l.stackTraces = false) (hL : Lx ≤ 2560) (C0 : lw_At p s m meth cd b Lx xs) (hG : zGW zts0 zns0 D cy s.heap.size stx K0 L0 Z0 s)
    (I : Nat → (Nat → Nat) → List Nat → zS → zS → Prop) (z ms mo ou : Nat) (hIK : ∀ n K L c r, I n K L c r → K ms = 6 ∧ K mo = 7 ∧ K ou = 17) (hI1 : ∀ n K L c r, I n K L c r → I (n + 1) K L c r) (hS_0 : S_0 I z ms mo ou) (hS_1 : S_1 I z ms mo ou) (hS_2 : S_2 I z ms mo ou) (hS_3 : S_3 I z ms mo ou) (hS_4 : S_4 I z ms mo ou) (hS_5 : S_5 I z ms mo ou) (hS_6 : S_6 I z ms mo ou) (hS_7 : S_7 I z ms mo ou) (hS_8 : S_8 I z ms mo ou) (hS_9 : S_9 I z ms mo ou) (hS_10 : S_10 I z ms mo ou) (hS_11 : S_11 I z ms mo ou) (hS_12 : S_12 I z ms mo ou) (hS_13 : S_13 I z ms mo ou) (hS_14 : S_14 I z ms mo ou) (hS_15 : S_15 I z ms mo ou) (hS_16 : S_16 I z ms mo ou) (hS_17 : S_17 I z ms mo ou) (hS_18 : S_18 I z ms mo ou) (hS_19 : S_19 I z ms mo ou) (hS_20 : S_20 I z ms mo ou) (hS_21 : S_21 I z ms mo ou) (hS_22 : S_22 I z ms mo ou) (hS_23 : S_23 I z ms mo ou) (hS_24 : S_24 I z ms mo ou) (hS_25 : S_25 I z ms mo ou) (hS_26 : S_26 I z ms mo ou) (hS_27 : S_27 I z ms mo ou) (hS_28 : S_28 I z ms mo ou) (hS_29 : S_29 I z ms mo ou) :
    ∀ (k j : Nat), j + k = 513 → 5 * j ≤ Lx → ∀ (K : Nat → Nat) (L : List Nat) (c r : zS) (H : Heap) (locs : List Loc) (ls : Array Slot), I j K L c r → zC D cy s.heap.size K L (c, r, o) s.heap H locs → lv_has ls 8 [(0, .ref b), (1, .ref ms), (2, .ref mo), (3, .ref ou), (4, .int (nI (5 * j)))] → W p l e room_1 s m #[Value.ref b] below meth cd H locs (600 + 16 * j) (60000 + 100 * j) (lw_Z below #[Value.ref b] s) (F0 m 23 ls []) := by
  obtain ⟨hx, hb, hr, hml, hown, hts0, hX, hbl, hlocks, hgv⟩ := C0
  have hts := fun w h => hts0 w (wsL_law_in w h)
  have hbA : ¬ zA s.heap.size b := Nat.not_le.mpr hbl
  have hK := hG.2.2.2.1

  have w0 := hts (.constantLong RL 204 4294967295) (by decide +kernel)
  intro k
  induction k with
  | zero => intro j hj hjL; exact absurd hjL (by omega)
  | succ k ih =>
    intro j hj0 hjL K L c r H locs ls hI hC hl
    obtain ⟨hk1, hk2, hk3⟩ := hIK _ _ _ _ _ hI
    have hj512 : j ≤ 512 := by omega
    refine lv_iload hx hb dL_law_23 (lv_at hl 4 rfl) ?_
    refine lv_aload_n hx hb dL_law_25 rfl (lv_at hl 0 rfl) ?_
    refine va_slen hx hb hX hbl hbA hC.2.2.1 dL_law_26 ?_
    refine lv_iconst (v := 5) hx hb dL_law_27 (by decide) ?_
    refine lv_isub hx hb dL_law_28 ?_
    refine lv_icmp_gt (tgt := 2038) hx hb dL_law_29 (by decide) (fun hgt => ?_) (fun hgt => ?_)
    · refine lv_iconst (v := 1) hx hb dL_law_2038 (by decide) ?_
      refine va_forget (fun q hq => hC.2.2.1.2.2 q hq) ?_
      refine W.widen (k := 601024) (n := 7293034) (by omega) (by omega) ?_
      exact lw_ret hx hb hr hlocks dL_law_2039
    · have h5 : 5 * j + 5 ≤ Lx := z_bound hL hjL hgt
      have hj : j < 512 := by omega
      have hin1 : vp_in (nI (5 * j) + 1) Lx := by rw [show (1 : Int32) = nI 1 from rfl, nI_add]; exact vp_in_nI (by omega) (by omega)
      have hin2 : vp_in (nI (5 * j) + 2) Lx := by rw [show (2 : Int32) = nI 2 from rfl, nI_add]; exact vp_in_nI (by omega) (by omega)
      have hin3 : vp_in (nI (5 * j) + 3) Lx := by rw [show (3 : Int32) = nI 3 from rfl, nI_add]; exact vp_in_nI (by omega) (by omega)
      have hin4 : vp_in (nI (5 * j) + 4) Lx := by rw [show (4 : Int32) = nI 4 from rfl, nI_add]; exact vp_in_nI (by omega) (by omega)
      have hin0 : vp_in (nI (5 * j)) Lx := vp_in_nI (by omega) (by omega)
      obtain ⟨p1, hp1⟩ : ∃ y, y = xs (Int32.toNatClampNeg (nI (5 * j) + 1)) := ⟨_, rfl⟩
      obtain ⟨p2, hp2⟩ : ∃ y, y = xs (Int32.toNatClampNeg (nI (5 * j) + 2)) := ⟨_, rfl⟩
      obtain ⟨p3, hp3⟩ : ∃ y, y = xs (Int32.toNatClampNeg (nI (5 * j) + 3)) := ⟨_, rfl⟩
      obtain ⟨p4, hp4⟩ : ∃ y, y = xs (Int32.toNatClampNeg (nI (5 * j) + 4)) := ⟨_, rfl⟩
      have NEXT : ∀ (K : Nat → Nat) (L : List Nat) (c r : zS) (H : Heap) (locs : List Loc) (ls : Array Slot) (ca sl : Nat), I (j + 1) K L c r → zC D cy s.heap.size K L (c, r, o) s.heap H locs → lv_has ls 8 [(0, .ref b), (1, .ref ms), (2, .ref mo), (3, .ref ou), (4, .int (nI (5 * j)))] → ca ≤ 600 + 16 * (j + 1) → sl ≤ 60000 + 100 * (j + 1) → W p l e room_1 s m #[Value.ref b] below meth cd H locs ca sl (lw_Z below #[Value.ref b] s) (F0 m 2032 ls []) := by
        intro K L c r H locs ls ca sl hI hC hl h1 h2
        refine lv_iinc (v := nI (5 * (j + 1))) (lv' := [(4, .int (nI (5 * (j + 1)))), (0, .ref b), (1, .ref ms), (2, .ref mo), (3, .ref ou)]) hx hb dL_law_2032 hl (k := 4) rfl (by rw [show 5 * (j + 1) = 5 * j + 5 from by omega, ← nI_add]; rfl) (by decide) rfl (fun ls hl => ?_)
        refine lv_goto (tgt := 23) hx hb dL_law_2035 (by decide) ?_
        refine W.widen h1 h2 ?_
        exact ih (j + 1) (by omega) (by omega) K L c r H locs ls hI hC (lv_sub hl [1, 2, 3, 4, 0] rfl)
      refine lv_aload_n hx hb dL_law_32 rfl (lv_at hl 0 rfl) ?_
      refine lv_iload hx hb dL_law_33 (lv_at hl 4 rfl) ?_
      refine va_sld hx hb hX hbl hbA hC.2.2.1 hin0 dL_law_35 ?_
      refine lv_bipush (v := 31) hx hb dL_law_36 (by decide) ?_
      refine lv_iand hx hb dL_law_38 ?_
      obtain ⟨y, hy⟩ : ∃ y, y = xs (Int32.toNatClampNeg (nI (5 * j))) &&& 31 := ⟨_, rfl⟩
      refine z_name hy ?_
      by_cases y0 : y = 0
      · refine z_name y0.symm ?_
        refine lv_tableIn (off := 133) (tgt := 172) hx hb dL_law_39 (by decide) (by decide) (by decide) (by decide) ?_
        refine lv_aload_n hx hb dL_law_172 rfl (lv_at hl 1 rfl) ?_
        refine lv_aload_n hx hb dL_law_173 rfl (lv_at hl 0 rfl) ?_
        refine lv_iload hx hb dL_law_174 (lv_at hl 4 rfl) ?_
        refine lv_iconst (v := 1) hx hb dL_law_176 (by decide) ?_
        refine lv_iadd hx hb dL_law_177 ?_
        refine va_sld hx hb hX hbl hbA hC.2.2.1 hin1 dL_law_178 ?_
        refine z_name hp1 ?_
        refine lv_aload_n hx hb dL_law_179 rfl (lv_at hl 0 rfl) ?_
        refine lv_iload hx hb dL_law_180 (lv_at hl 4 rfl) ?_
        refine lv_iconst (v := 2) hx hb dL_law_182 (by decide) ?_
        refine lv_iadd hx hb dL_law_183 ?_
        refine va_sld hx hb hX hbl hbA hC.2.2.1 hin2 dL_law_184 ?_
        refine z_name hp2 ?_
        obtain ⟨res, hf1, hf2, hS⟩ := hS_0 j K L c r p1 p2 hj hI
        refine z_wcall (z_rW (As := [.ref ms, .int p1, .int p2]) (rest := []) ⟨hx, hb, hml, hown, hts⟩ (c_L_row (l := l) (D := D) (cy := cy) (base := s.heap.size) (st := stx) (K := K) (L := L) (c := c) (r := r) (o := o) (z := z) ms p1 p2 hk1 hst hf1 hf2) (vx_cwSW 3 hts gL_law_L_row rfl rfl rfl (by decide +kernel) ⟨(Nat.le_of_ble_eq_true rfl), (Nat.le_of_ble_eq_true rfl)⟩) hG hC rfl hl.1 rfl (lv_room (Nat.le_of_ble_eq_true rfl)) dL_law_185 ⟨show 600 + 16 * j + 3 ≤ 601024 by omega, show 60000 + 100 * j + 18 ≤ 7293034 by omega⟩) hC (fun rr u H locs hpost hC => ?_)
        obtain ⟨r1, hm, hth, hI⟩ := hS rr u hpost
        obtain ⟨hk1, hk2, hk3⟩ := hIK _ _ _ _ _ hI
        have hthr : f_X7_thrown u.1 z r1 mo = some (zi r1 0 mo 0) := rfl
        refine lv_istore (lv' := [(5, .int rr), (0, .ref b), (1, .ref ms), (2, .ref mo), (3, .ref ou), (4, .int (nI (5 * j)))]) hx hb dL_law_188 hl (by decide) rfl (fun ls hl => ?_)
        refine lv_aload_n hx hb dL_law_190 rfl (lv_at hl 3 rfl) ?_
        refine lv_aload_n hx hb dL_law_191 rfl (lv_at hl 1 rfl) ?_
        refine lv_iload hx hb dL_law_192 (lv_at hl 5 rfl) ?_
        refine lv_iconst (v := 1) hx hb dL_law_194 (by decide) ?_
        refine lv_iadd hx hb dL_law_195 ?_
        refine va_sld hx hb hX hbl hbA hC.2.2.1 hin1 dL_law_196 ?_
        refine z_name hp1 ?_
        refine lv_aload_n hx hb dL_law_197 rfl (lv_at hl 1 rfl) ?_
        refine lv_iload hx hb dL_law_198 (lv_at hl 5 rfl) ?_
        refine lv_iconst (v := 2) hx hb dL_law_200 (by decide) ?_
        refine lv_iadd hx hb dL_law_201 ?_
        refine va_sld hx hb hX hbl hbA hC.2.2.1 hin2 dL_law_202 ?_
        refine z_name hp2 ?_
        refine z_cv (z_rV (As := [.int p1, .int p2]) (rest := []) ⟨hx, hb, hml, hown, hts⟩ (c_X7_row (l := l) (D := D) (cy := cy) (base := s.heap.size) (st := stx) (K := u.1) (L := u.2.1) (c := u.2.2) (r := r) (o := o) (z := z) mo p1 p2 hk2 hm) (cwV 2 hts gL_law_X7_row rfl rfl rfl (by decide +kernel) ⟨(Nat.le_of_ble_eq_true rfl), (Nat.le_of_ble_eq_true rfl)⟩) hG hC (zC.recv (ci := 7) (fs := _) hK hC (by rw [hk2]; decide) (by rw [hk2]; exact zc_7 cy _ _) rfl) rfl hl.1 rfl (lv_room (Nat.le_of_ble_eq_true rfl)) dL_law_203 ⟨show 600 + 16 * j + 3 + 0 ≤ 601024 by omega, show 60000 + 100 * j + 18 + 0 ≤ 7293034 by omega⟩) hC (fun H locs hC => ?_)
        refine lv_aload_n hx hb dL_law_206 rfl (lv_at hl 3 rfl) ?_
        refine z_ci (z_rV (As := []) (rest := []) ⟨hx, hb, hml, hown, hts⟩ (c_X7_thrown (l := l) (D := D) (cy := cy) (base := s.heap.size) (st := stx) (K := u.1) (L := u.2.1) (c := u.2.2) (r := r1) (o := o) (z := z) mo hk2 hthr) (cwV 0 hts gL_law_X7_thrown rfl rfl rfl (by decide +kernel) ⟨(Nat.le_of_ble_eq_true rfl), (Nat.le_of_ble_eq_true rfl)⟩) hG hC (zC.recv (ci := 7) (fs := _) hK hC (by rw [hk2]; decide) (by rw [hk2]; exact zc_7 cy _ _) rfl) rfl hl.1 rfl (lv_room (Nat.le_of_ble_eq_true rfl)) dL_law_207 ⟨show 600 + 16 * j + 3 + 0 ≤ 601024 by omega, show 60000 + 100 * j + 18 + 0 ≤ 7293034 by omega⟩) hC (fun H locs hC => ?_)
        refine lv_iload hx hb dL_law_210 (lv_at hl 0 rfl) ?_
        refine lv_icmp_eq (tgt := 217) hx hb dL_law_212 (by decide) (fun h9 => ?_) (fun h9 => absurd hth h9)
        refine lv_goto (tgt := 2032) hx hb dL_law_217 (by decide) ?_
        exact NEXT u.1 u.2.1 u.2.2 r1 _ _ ls _ _ hI hC (lv_sub hl [1, 2, 3, 4, 5] rfl) (by omega) (by omega)
      by_cases y1 : y = 1
      · refine z_name y1.symm ?_
        refine lv_tableIn (off := 181) (tgt := 220) hx hb dL_law_39 (by decide) (by decide) (by decide) (by decide) ?_
        refine lv_aload_n hx hb dL_law_220 rfl (lv_at hl 1 rfl) ?_
        refine lv_aload_n hx hb dL_law_221 rfl (lv_at hl 0 rfl) ?_
        refine lv_iload hx hb dL_law_222 (lv_at hl 4 rfl) ?_
        refine lv_iconst (v := 1) hx hb dL_law_224 (by decide) ?_
        refine lv_iadd hx hb dL_law_225 ?_
        refine va_sld hx hb hX hbl hbA hC.2.2.1 hin1 dL_law_226 ?_
        refine z_name hp1 ?_
        refine lv_aload_n hx hb dL_law_227 rfl (lv_at hl 0 rfl) ?_
        refine lv_iload hx hb dL_law_228 (lv_at hl 4 rfl) ?_
        refine lv_iconst (v := 2) hx hb dL_law_230 (by decide) ?_
        refine lv_iadd hx hb dL_law_231 ?_
        refine va_sld hx hb hX hbl hbA hC.2.2.1 hin2 dL_law_232 ?_
        refine z_name hp2 ?_
        refine lv_aload_n hx hb dL_law_233 rfl (lv_at hl 0 rfl) ?_
        refine lv_iload hx hb dL_law_234 (lv_at hl 4 rfl) ?_
        refine lv_iconst (v := 3) hx hb dL_law_236 (by decide) ?_
        refine lv_iadd hx hb dL_law_237 ?_
        refine va_sld hx hb hX hbl hbA hC.2.2.1 hin3 dL_law_238 ?_
        refine z_name hp3 ?_
        refine lv_aload_n hx hb dL_law_239 rfl (lv_at hl 0 rfl) ?_
        refine lv_iload hx hb dL_law_240 (lv_at hl 4 rfl) ?_
        refine lv_iconst (v := 4) hx hb dL_law_242 (by decide) ?_
        refine lv_iadd hx hb dL_law_243 ?_
        refine va_sld hx hb hX hbl hbA hC.2.2.1 hin4 dL_law_244 ?_
        refine z_name hp4 ?_
        refine z_bi hx hb (t0 := 252) (t1 := 253) dL_law_245 (by decide) dL_law_248 dL_law_249 (by decide) dL_law_252 rfl ?_
        refine lv_aload_n hx hb dL_law_253 rfl (lv_at hl 3 rfl) ?_
        obtain ⟨res, hf1, hf2, hS⟩ := hS_1 j K L c r p1 p2 p3 p4 hj hI
        refine z_wcall (z_rW (As := [.ref ms, .int p1, .int p2, .int p3, .int (if p4 = 0 then 0 else 1), .ref ou]) (rest := []) ⟨hx, hb, hml, hown, hts⟩ (c_L_mark (l := l) (D := D) (cy := cy) (base := s.heap.size) (st := stx) (K := K) (L := L) (c := c) (r := r) (o := o) (z := z) ms p1 p2 p3 (if p4 = 0 then 0 else 1) ou hk1 hk3 hst hf1 hf2) (vx_cwSW 6 hts gL_law_L_mark rfl rfl rfl (by decide +kernel) ⟨(Nat.le_of_ble_eq_true rfl), (Nat.le_of_ble_eq_true rfl)⟩) hG hC rfl hl.1 rfl (lv_room (Nat.le_of_ble_eq_true rfl)) dL_law_254 ⟨show 600 + 16 * j + 3 ≤ 601024 by omega, show 60000 + 100 * j + 18 ≤ 7293034 by omega⟩) hC (fun rr u H locs hpost hC => ?_)
        obtain ⟨bb, r1, hm, hth, hval, hI⟩ := hS rr u hpost
        have hval := fun h : rr = 0 => (congrArg (zl u.2.2 170 ou) sb_cl0).trans (hval h)
        obtain ⟨hk1, hk2, hk3⟩ := hIK _ _ _ _ _ hI
        have hthr : f_X7_thrown u.1 z r1 mo = some (zi r1 0 mo 0) := rfl
        refine lv_istore (lv' := [(5, .int rr), (0, .ref b), (1, .ref ms), (2, .ref mo), (3, .ref ou), (4, .int (nI (5 * j)))]) hx hb dL_law_257 hl (by decide) rfl (fun ls hl => ?_)
        refine lv_aload_n hx hb dL_law_259 rfl (lv_at hl 3 rfl) ?_
        refine lv_aload_n hx hb dL_law_260 rfl (lv_at hl 1 rfl) ?_
        refine lv_iload hx hb dL_law_261 (lv_at hl 5 rfl) ?_
        refine lv_iconst (v := 1) hx hb dL_law_263 (by decide) ?_
        refine lv_iadd hx hb dL_law_264 ?_
        refine va_sld hx hb hX hbl hbA hC.2.2.1 hin1 dL_law_265 ?_
        refine z_name hp1 ?_
        refine lv_aload_n hx hb dL_law_266 rfl (lv_at hl 1 rfl) ?_
        refine lv_iload hx hb dL_law_267 (lv_at hl 5 rfl) ?_
        refine lv_iconst (v := 2) hx hb dL_law_269 (by decide) ?_
        refine lv_iadd hx hb dL_law_270 ?_
        refine va_sld hx hb hX hbl hbA hC.2.2.1 hin2 dL_law_271 ?_
        refine z_name hp2 ?_
        refine lv_aload_n hx hb dL_law_272 rfl (lv_at hl 1 rfl) ?_
        refine lv_iload hx hb dL_law_273 (lv_at hl 5 rfl) ?_
        refine lv_iconst (v := 3) hx hb dL_law_275 (by decide) ?_
        refine lv_iadd hx hb dL_law_276 ?_
        refine va_sld hx hb hX hbl hbA hC.2.2.1 hin3 dL_law_277 ?_
        refine z_name hp3 ?_
        refine lv_aload_n hx hb dL_law_278 rfl (lv_at hl 1 rfl) ?_
        refine lv_iload hx hb dL_law_279 (lv_at hl 5 rfl) ?_
        refine lv_iconst (v := 4) hx hb dL_law_281 (by decide) ?_
        refine lv_iadd hx hb dL_law_282 ?_
        refine va_sld hx hb hX hbl hbA hC.2.2.1 hin4 dL_law_283 ?_
        refine z_name hp4 ?_
        refine z_bi hx hb (t0 := 291) (t1 := 292) dL_law_284 (by decide) dL_law_287 dL_law_288 (by decide) dL_law_291 rfl ?_
        refine z_ci (z_rV (As := [.int p1, .int p2, .int p3, .int (if p4 = 0 then 0 else 1)]) (rest := []) ⟨hx, hb, hml, hown, hts⟩ (c_X7_mark (l := l) (D := D) (cy := cy) (base := s.heap.size) (st := stx) (K := u.1) (L := u.2.1) (c := u.2.2) (r := r) (o := o) (z := z) mo p1 p2 p3 (if p4 = 0 then 0 else 1) hk2 hm) (cwV 4 hts gL_law_X7_mark rfl rfl rfl (by decide +kernel) ⟨(Nat.le_of_ble_eq_true rfl), (Nat.le_of_ble_eq_true rfl)⟩) hG hC (zC.recv (ci := 7) (fs := _) hK hC (by rw [hk2]; decide) (by rw [hk2]; exact zc_7 cy _ _) rfl) rfl hl.1 rfl (lv_room (Nat.le_of_ble_eq_true rfl)) dL_law_292 ⟨show 600 + 16 * j + 3 + 0 ≤ 601024 by omega, show 60000 + 100 * j + 18 + 0 ≤ 7293034 by omega⟩) hC (fun H locs hC => ?_)
        refine lv_istore (lv' := [(6, .int bb), (5, .int rr), (0, .ref b), (1, .ref ms), (2, .ref mo), (3, .ref ou), (4, .int (nI (5 * j)))]) hx hb dL_law_295 hl (by decide) rfl (fun ls hl => ?_)
        refine lv_aload_n hx hb dL_law_297 rfl (lv_at hl 4 rfl) ?_
        refine z_ci (z_rV (As := []) (rest := []) ⟨hx, hb, hml, hown, hts⟩ (c_X7_thrown (l := l) (D := D) (cy := cy) (base := s.heap.size) (st := stx) (K := u.1) (L := u.2.1) (c := u.2.2) (r := r1) (o := o) (z := z) mo hk2 hthr) (cwV 0 hts gL_law_X7_thrown rfl rfl rfl (by decide +kernel) ⟨(Nat.le_of_ble_eq_true rfl), (Nat.le_of_ble_eq_true rfl)⟩) hG hC (zC.recv (ci := 7) (fs := _) hK hC (by rw [hk2]; decide) (by rw [hk2]; exact zc_7 cy _ _) rfl) rfl hl.1 rfl (lv_room (Nat.le_of_ble_eq_true rfl)) dL_law_298 ⟨show 600 + 16 * j + 3 + 0 ≤ 601024 by omega, show 60000 + 100 * j + 18 + 0 ≤ 7293034 by omega⟩) hC (fun H locs hC => ?_)
        refine lv_iload hx hb dL_law_301 (lv_at hl 1 rfl) ?_
        refine lv_icmp_eq (tgt := 308) hx hb dL_law_303 (by decide) (fun h9 => ?_) (fun h9 => absurd hth h9)
        refine lv_iload hx hb dL_law_308 (lv_at hl 1 rfl) ?_
        refine lv_if_ne (tgt := 332) hx hb dL_law_310 (by decide) (fun h0 => ?_) (fun h0 => ?_)
        · refine lv_goto (tgt := 2032) hx hb dL_law_332 (by decide) ?_
          exact NEXT u.1 u.2.1 u.2.2 r1 _ _ ls _ _ hI hC (lv_sub hl [2, 3, 4, 5, 6] rfl) (by omega) (by omega)
        · refine lv_aload_n hx hb dL_law_313 rfl (lv_at hl 5 rfl) ?_
          refine lv_iconst (v := 0) hx hb dL_law_314 (by decide) ?_
          refine xg_17 hx hb hK hC hk3 (by unfold vp_in; decide) dL_law_315 ?_
          refine lv_iload hx hb dL_law_316 (lv_at hl 0 rfl) ?_
          refine z_bl hx hb (t0 := 325) (t1 := 326) dL_law_318 (by decide) dL_law_321 dL_law_322 (by decide) dL_law_325 rfl ?_
          refine W.lcmp hx hb dL_law_326 ?_
          refine lv_if_eq (tgt := 332) hx hb dL_law_327 (by decide) (fun h9 => ?_) (fun h9 => absurd (z_cmp (hval h0)) h9)
          refine lv_goto (tgt := 2032) hx hb dL_law_332 (by decide) ?_
          exact NEXT u.1 u.2.1 u.2.2 r1 _ _ ls _ _ hI hC (lv_sub hl [2, 3, 4, 5, 6] rfl) (by omega) (by omega)
      by_cases y2 : y = 2
      · refine z_name y2.symm ?_
        refine lv_tableIn (off := 296) (tgt := 335) hx hb dL_law_39 (by decide) (by decide) (by decide) (by decide) ?_
        refine lv_aload_n hx hb dL_law_335 rfl (lv_at hl 1 rfl) ?_
        refine lv_aload_n hx hb dL_law_336 rfl (lv_at hl 0 rfl) ?_
        refine lv_iload hx hb dL_law_337 (lv_at hl 4 rfl) ?_
        refine lv_iconst (v := 1) hx hb dL_law_339 (by decide) ?_
        refine lv_iadd hx hb dL_law_340 ?_
        refine va_sld hx hb hX hbl hbA hC.2.2.1 hin1 dL_law_341 ?_
        refine z_name hp1 ?_
        refine lv_aload_n hx hb dL_law_342 rfl (lv_at hl 0 rfl) ?_
        refine lv_iload hx hb dL_law_343 (lv_at hl 4 rfl) ?_
        refine lv_iconst (v := 2) hx hb dL_law_345 (by decide) ?_
        refine lv_iadd hx hb dL_law_346 ?_
        refine va_sld hx hb hX hbl hbA hC.2.2.1 hin2 dL_law_347 ?_
        refine z_name hp2 ?_
        refine lv_aload_n hx hb dL_law_348 rfl (lv_at hl 0 rfl) ?_
        refine lv_iload hx hb dL_law_349 (lv_at hl 4 rfl) ?_
        refine lv_iconst (v := 3) hx hb dL_law_351 (by decide) ?_
        refine lv_iadd hx hb dL_law_352 ?_
        refine va_sld hx hb hX hbl hbA hC.2.2.1 hin3 dL_law_353 ?_
        refine z_name hp3 ?_
        refine z_bi hx hb (t0 := 361) (t1 := 362) dL_law_354 (by decide) dL_law_357 dL_law_358 (by decide) dL_law_361 rfl ?_
        refine lv_aload_n hx hb dL_law_362 rfl (lv_at hl 3 rfl) ?_
        obtain ⟨res, hf1, hf2, hS⟩ := hS_2 j K L c r p1 p2 p3 hj hI
        refine z_wcall (z_rW (As := [.ref ms, .int p1, .int p2, .int (if p3 = 0 then 0 else 1), .ref ou]) (rest := []) ⟨hx, hb, hml, hown, hts⟩ (c_L_trade (l := l) (D := D) (cy := cy) (base := s.heap.size) (st := stx) (K := K) (L := L) (c := c) (r := r) (o := o) (z := z) ms p1 p2 (if p3 = 0 then 0 else 1) ou hk1 hk3 hst hf1 hf2) (vx_cwSW 5 hts gL_law_L_trade rfl rfl rfl (by decide +kernel) ⟨(Nat.le_of_ble_eq_true rfl), (Nat.le_of_ble_eq_true rfl)⟩) hG hC rfl hl.1 rfl (lv_room (Nat.le_of_ble_eq_true rfl)) dL_law_363 ⟨show 600 + 16 * j + 2 ≤ 601024 by omega, show 60000 + 100 * j + 12 ≤ 7293034 by omega⟩) hC (fun rr u H locs hpost hC => ?_)
        obtain ⟨bb, r1, hm, hth, hval, hI⟩ := hS rr u hpost
        have hval := fun h : rr = 0 => (congrArg (zl u.2.2 170 ou) sb_cl0).trans (hval h)
        obtain ⟨hk1, hk2, hk3⟩ := hIK _ _ _ _ _ hI
        have hthr : f_X7_thrown u.1 z r1 mo = some (zi r1 0 mo 0) := rfl
        refine lv_istore (lv' := [(5, .int rr), (0, .ref b), (1, .ref ms), (2, .ref mo), (3, .ref ou), (4, .int (nI (5 * j)))]) hx hb dL_law_366 hl (by decide) rfl (fun ls hl => ?_)
        refine lv_aload_n hx hb dL_law_368 rfl (lv_at hl 3 rfl) ?_
        refine lv_aload_n hx hb dL_law_369 rfl (lv_at hl 1 rfl) ?_
        refine lv_iload hx hb dL_law_370 (lv_at hl 5 rfl) ?_
        refine lv_iconst (v := 1) hx hb dL_law_372 (by decide) ?_
        refine lv_iadd hx hb dL_law_373 ?_
        refine va_sld hx hb hX hbl hbA hC.2.2.1 hin1 dL_law_374 ?_
        refine z_name hp1 ?_
        refine lv_aload_n hx hb dL_law_375 rfl (lv_at hl 1 rfl) ?_
        refine lv_iload hx hb dL_law_376 (lv_at hl 5 rfl) ?_
        refine lv_iconst (v := 2) hx hb dL_law_378 (by decide) ?_
        refine lv_iadd hx hb dL_law_379 ?_
        refine va_sld hx hb hX hbl hbA hC.2.2.1 hin2 dL_law_380 ?_
        refine z_name hp2 ?_
        refine lv_aload_n hx hb dL_law_381 rfl (lv_at hl 1 rfl) ?_
        refine lv_iload hx hb dL_law_382 (lv_at hl 5 rfl) ?_
        refine lv_iconst (v := 3) hx hb dL_law_384 (by decide) ?_
        refine lv_iadd hx hb dL_law_385 ?_
        refine va_sld hx hb hX hbl hbA hC.2.2.1 hin3 dL_law_386 ?_
        refine z_name hp3 ?_
        refine z_bi hx hb (t0 := 394) (t1 := 395) dL_law_387 (by decide) dL_law_390 dL_law_391 (by decide) dL_law_394 rfl ?_
        refine z_ci (z_rV (As := [.int p1, .int p2, .int (if p3 = 0 then 0 else 1)]) (rest := []) ⟨hx, hb, hml, hown, hts⟩ (c_X7_trade (l := l) (D := D) (cy := cy) (base := s.heap.size) (st := stx) (K := u.1) (L := u.2.1) (c := u.2.2) (r := r) (o := o) (z := z) mo p1 p2 (if p3 = 0 then 0 else 1) hk2 hm) (cwV 3 hts gL_law_X7_trade rfl rfl rfl (by decide +kernel) ⟨(Nat.le_of_ble_eq_true rfl), (Nat.le_of_ble_eq_true rfl)⟩) hG hC (zC.recv (ci := 7) (fs := _) hK hC (by rw [hk2]; decide) (by rw [hk2]; exact zc_7 cy _ _) rfl) rfl hl.1 rfl (lv_room (Nat.le_of_ble_eq_true rfl)) dL_law_395 ⟨show 600 + 16 * j + 2 + 0 ≤ 601024 by omega, show 60000 + 100 * j + 12 + 0 ≤ 7293034 by omega⟩) hC (fun H locs hC => ?_)
        refine lv_istore (lv' := [(6, .int bb), (5, .int rr), (0, .ref b), (1, .ref ms), (2, .ref mo), (3, .ref ou), (4, .int (nI (5 * j)))]) hx hb dL_law_398 hl (by decide) rfl (fun ls hl => ?_)
        refine lv_aload_n hx hb dL_law_400 rfl (lv_at hl 4 rfl) ?_
        refine z_ci (z_rV (As := []) (rest := []) ⟨hx, hb, hml, hown, hts⟩ (c_X7_thrown (l := l) (D := D) (cy := cy) (base := s.heap.size) (st := stx) (K := u.1) (L := u.2.1) (c := u.2.2) (r := r1) (o := o) (z := z) mo hk2 hthr) (cwV 0 hts gL_law_X7_thrown rfl rfl rfl (by decide +kernel) ⟨(Nat.le_of_ble_eq_true rfl), (Nat.le_of_ble_eq_true rfl)⟩) hG hC (zC.recv (ci := 7) (fs := _) hK hC (by rw [hk2]; decide) (by rw [hk2]; exact zc_7 cy _ _) rfl) rfl hl.1 rfl (lv_room (Nat.le_of_ble_eq_true rfl)) dL_law_401 ⟨show 600 + 16 * j + 2 + 0 ≤ 601024 by omega, show 60000 + 100 * j + 12 + 0 ≤ 7293034 by omega⟩) hC (fun H locs hC => ?_)
        refine lv_iload hx hb dL_law_404 (lv_at hl 1 rfl) ?_
        refine lv_icmp_eq (tgt := 411) hx hb dL_law_406 (by decide) (fun h9 => ?_) (fun h9 => absurd hth h9)
        refine lv_iload hx hb dL_law_411 (lv_at hl 1 rfl) ?_
        refine lv_if_ne (tgt := 428) hx hb dL_law_413 (by decide) (fun h0 => ?_) (fun h0 => ?_)
        · refine lv_goto (tgt := 2032) hx hb dL_law_428 (by decide) ?_
          exact NEXT u.1 u.2.1 u.2.2 r1 _ _ ls _ _ hI hC (lv_sub hl [2, 3, 4, 5, 6] rfl) (by omega) (by omega)
        · refine lv_aload_n hx hb dL_law_416 rfl (lv_at hl 5 rfl) ?_
          refine lv_iconst (v := 0) hx hb dL_law_417 (by decide) ?_
          refine xg_17 hx hb hK hC hk3 (by unfold vp_in; decide) dL_law_418 ?_
          refine lv_iload hx hb dL_law_419 (lv_at hl 0 rfl) ?_
          refine lv_i2l (v := (Int32.toInt64 bb)) hx hb dL_law_421 rfl ?_
          refine W.lcmp hx hb dL_law_422 ?_
          refine lv_if_eq (tgt := 428) hx hb dL_law_423 (by decide) (fun h9 => ?_) (fun h9 => absurd (z_cmp (hval h0)) h9)
          refine lv_goto (tgt := 2032) hx hb dL_law_428 (by decide) ?_
          exact NEXT u.1 u.2.1 u.2.2 r1 _ _ ls _ _ hI hC (lv_sub hl [2, 3, 4, 5, 6] rfl) (by omega) (by omega)
      by_cases y3 : y = 3
      · refine z_name y3.symm ?_
        refine lv_tableIn (off := 392) (tgt := 431) hx hb dL_law_39 (by decide) (by decide) (by decide) (by decide) ?_
        refine lv_aload_n hx hb dL_law_431 rfl (lv_at hl 1 rfl) ?_
        refine lv_aload_n hx hb dL_law_432 rfl (lv_at hl 0 rfl) ?_
        refine lv_iload hx hb dL_law_433 (lv_at hl 4 rfl) ?_
        refine lv_iconst (v := 1) hx hb dL_law_435 (by decide) ?_
        refine lv_iadd hx hb dL_law_436 ?_
        refine va_sld hx hb hX hbl hbA hC.2.2.1 hin1 dL_law_437 ?_
        refine z_name hp1 ?_
        refine lv_aload_n hx hb dL_law_438 rfl (lv_at hl 0 rfl) ?_
        refine lv_iload hx hb dL_law_439 (lv_at hl 4 rfl) ?_
        refine lv_iconst (v := 2) hx hb dL_law_441 (by decide) ?_
        refine lv_iadd hx hb dL_law_442 ?_
        refine va_sld hx hb hX hbl hbA hC.2.2.1 hin2 dL_law_443 ?_
        refine z_name hp2 ?_
        refine lv_aload_n hx hb dL_law_444 rfl (lv_at hl 0 rfl) ?_
        refine lv_iload hx hb dL_law_445 (lv_at hl 4 rfl) ?_
        refine lv_iconst (v := 3) hx hb dL_law_447 (by decide) ?_
        refine lv_iadd hx hb dL_law_448 ?_
        refine va_sld hx hb hX hbl hbA hC.2.2.1 hin3 dL_law_449 ?_
        refine z_name hp3 ?_
        refine z_bi hx hb (t0 := 457) (t1 := 458) dL_law_450 (by decide) dL_law_453 dL_law_454 (by decide) dL_law_457 rfl ?_
        refine lv_aload_n hx hb dL_law_458 rfl (lv_at hl 3 rfl) ?_
        obtain ⟨res, hf1, hf2, hS⟩ := hS_3 j K L c r p1 p2 p3 hj hI
        refine z_wcall (z_rW (As := [.ref ms, .int p1, .int p2, .int (if p3 = 0 then 0 else 1), .ref ou]) (rest := []) ⟨hx, hb, hml, hown, hts⟩ (c_L_pair (l := l) (D := D) (cy := cy) (base := s.heap.size) (st := stx) (K := K) (L := L) (c := c) (r := r) (o := o) (z := z) ms p1 p2 (if p3 = 0 then 0 else 1) ou hk1 hk3 hst hf1 hf2) (vx_cwSW 5 hts gL_law_L_pair rfl rfl rfl (by decide +kernel) ⟨(Nat.le_of_ble_eq_true rfl), (Nat.le_of_ble_eq_true rfl)⟩) hG hC rfl hl.1 rfl (lv_room (Nat.le_of_ble_eq_true rfl)) dL_law_459 ⟨show 600 + 16 * j + 3 ≤ 601024 by omega, show 60000 + 100 * j + 18 ≤ 7293034 by omega⟩) hC (fun rr u H locs hpost hC => ?_)
        obtain ⟨bb, r1, hm, hth, hval, hI⟩ := hS rr u hpost
        have hval := fun h : rr = 0 => (congrArg (zl u.2.2 170 ou) sb_cl0).trans (hval h)
        obtain ⟨hk1, hk2, hk3⟩ := hIK _ _ _ _ _ hI
        have hthr : f_X7_thrown u.1 z r1 mo = some (zi r1 0 mo 0) := rfl
        refine lv_istore (lv' := [(5, .int rr), (0, .ref b), (1, .ref ms), (2, .ref mo), (3, .ref ou), (4, .int (nI (5 * j)))]) hx hb dL_law_462 hl (by decide) rfl (fun ls hl => ?_)
        refine lv_aload_n hx hb dL_law_464 rfl (lv_at hl 3 rfl) ?_
        refine lv_aload_n hx hb dL_law_465 rfl (lv_at hl 1 rfl) ?_
        refine lv_iload hx hb dL_law_466 (lv_at hl 5 rfl) ?_
        refine lv_iconst (v := 1) hx hb dL_law_468 (by decide) ?_
        refine lv_iadd hx hb dL_law_469 ?_
        refine va_sld hx hb hX hbl hbA hC.2.2.1 hin1 dL_law_470 ?_
        refine z_name hp1 ?_
        refine lv_aload_n hx hb dL_law_471 rfl (lv_at hl 1 rfl) ?_
        refine lv_iload hx hb dL_law_472 (lv_at hl 5 rfl) ?_
        refine lv_iconst (v := 2) hx hb dL_law_474 (by decide) ?_
        refine lv_iadd hx hb dL_law_475 ?_
        refine va_sld hx hb hX hbl hbA hC.2.2.1 hin2 dL_law_476 ?_
        refine z_name hp2 ?_
        refine lv_aload_n hx hb dL_law_477 rfl (lv_at hl 1 rfl) ?_
        refine lv_iload hx hb dL_law_478 (lv_at hl 5 rfl) ?_
        refine lv_iconst (v := 3) hx hb dL_law_480 (by decide) ?_
        refine lv_iadd hx hb dL_law_481 ?_
        refine va_sld hx hb hX hbl hbA hC.2.2.1 hin3 dL_law_482 ?_
        refine z_name hp3 ?_
        refine z_bi hx hb (t0 := 490) (t1 := 491) dL_law_483 (by decide) dL_law_486 dL_law_487 (by decide) dL_law_490 rfl ?_
        refine z_ci (z_rV (As := [.int p1, .int p2, .int (if p3 = 0 then 0 else 1)]) (rest := []) ⟨hx, hb, hml, hown, hts⟩ (c_X7_pair (l := l) (D := D) (cy := cy) (base := s.heap.size) (st := stx) (K := u.1) (L := u.2.1) (c := u.2.2) (r := r) (o := o) (z := z) mo p1 p2 (if p3 = 0 then 0 else 1) hk2 hm) (cwV 3 hts gL_law_X7_pair rfl rfl rfl (by decide +kernel) ⟨(Nat.le_of_ble_eq_true rfl), (Nat.le_of_ble_eq_true rfl)⟩) hG hC (zC.recv (ci := 7) (fs := _) hK hC (by rw [hk2]; decide) (by rw [hk2]; exact zc_7 cy _ _) rfl) rfl hl.1 rfl (lv_room (Nat.le_of_ble_eq_true rfl)) dL_law_491 ⟨show 600 + 16 * j + 3 + 0 ≤ 601024 by omega, show 60000 + 100 * j + 18 + 0 ≤ 7293034 by omega⟩) hC (fun H locs hC => ?_)
        refine lv_istore (lv' := [(6, .int bb), (5, .int rr), (0, .ref b), (1, .ref ms), (2, .ref mo), (3, .ref ou), (4, .int (nI (5 * j)))]) hx hb dL_law_494 hl (by decide) rfl (fun ls hl => ?_)
        refine lv_aload_n hx hb dL_law_496 rfl (lv_at hl 4 rfl) ?_
        refine z_ci (z_rV (As := []) (rest := []) ⟨hx, hb, hml, hown, hts⟩ (c_X7_thrown (l := l) (D := D) (cy := cy) (base := s.heap.size) (st := stx) (K := u.1) (L := u.2.1) (c := u.2.2) (r := r1) (o := o) (z := z) mo hk2 hthr) (cwV 0 hts gL_law_X7_thrown rfl rfl rfl (by decide +kernel) ⟨(Nat.le_of_ble_eq_true rfl), (Nat.le_of_ble_eq_true rfl)⟩) hG hC (zC.recv (ci := 7) (fs := _) hK hC (by rw [hk2]; decide) (by rw [hk2]; exact zc_7 cy _ _) rfl) rfl hl.1 rfl (lv_room (Nat.le_of_ble_eq_true rfl)) dL_law_497 ⟨show 600 + 16 * j + 3 + 0 ≤ 601024 by omega, show 60000 + 100 * j + 18 + 0 ≤ 7293034 by omega⟩) hC (fun H locs hC => ?_)
        refine lv_iload hx hb dL_law_500 (lv_at hl 1 rfl) ?_
        refine lv_icmp_eq (tgt := 507) hx hb dL_law_502 (by decide) (fun h9 => ?_) (fun h9 => absurd hth h9)
        refine lv_iload hx hb dL_law_507 (lv_at hl 1 rfl) ?_
        refine lv_if_ne (tgt := 531) hx hb dL_law_509 (by decide) (fun h0 => ?_) (fun h0 => ?_)
        · refine lv_goto (tgt := 2032) hx hb dL_law_531 (by decide) ?_
          exact NEXT u.1 u.2.1 u.2.2 r1 _ _ ls _ _ hI hC (lv_sub hl [2, 3, 4, 5, 6] rfl) (by omega) (by omega)
        · refine lv_aload_n hx hb dL_law_512 rfl (lv_at hl 5 rfl) ?_
          refine lv_iconst (v := 0) hx hb dL_law_513 (by decide) ?_
          refine xg_17 hx hb hK hC hk3 (by unfold vp_in; decide) dL_law_514 ?_
          refine lv_iload hx hb dL_law_515 (lv_at hl 0 rfl) ?_
          refine z_bl hx hb (t0 := 524) (t1 := 525) dL_law_517 (by decide) dL_law_520 dL_law_521 (by decide) dL_law_524 rfl ?_
          refine W.lcmp hx hb dL_law_525 ?_
          refine lv_if_eq (tgt := 531) hx hb dL_law_526 (by decide) (fun h9 => ?_) (fun h9 => absurd (z_cmp (hval h0)) h9)
          refine lv_goto (tgt := 2032) hx hb dL_law_531 (by decide) ?_
          exact NEXT u.1 u.2.1 u.2.2 r1 _ _ ls _ _ hI hC (lv_sub hl [2, 3, 4, 5, 6] rfl) (by omega) (by omega)
      by_cases y4 : y = 4
      · refine z_name y4.symm ?_
        refine lv_tableIn (off := 495) (tgt := 534) hx hb dL_law_39 (by decide) (by decide) (by decide) (by decide) ?_
        refine lv_aload_n hx hb dL_law_534 rfl (lv_at hl 1 rfl) ?_
        refine lv_aload_n hx hb dL_law_535 rfl (lv_at hl 0 rfl) ?_
        refine lv_iload hx hb dL_law_536 (lv_at hl 4 rfl) ?_
        refine lv_iconst (v := 1) hx hb dL_law_538 (by decide) ?_
        refine lv_iadd hx hb dL_law_539 ?_
        refine va_sld hx hb hX hbl hbA hC.2.2.1 hin1 dL_law_540 ?_
        refine z_name hp1 ?_
        refine lv_aload_n hx hb dL_law_541 rfl (lv_at hl 0 rfl) ?_
        refine lv_iload hx hb dL_law_542 (lv_at hl 4 rfl) ?_
        refine lv_iconst (v := 2) hx hb dL_law_544 (by decide) ?_
        refine lv_iadd hx hb dL_law_545 ?_
        refine va_sld hx hb hX hbl hbA hC.2.2.1 hin2 dL_law_546 ?_
        refine z_name hp2 ?_
        refine lv_aload_n hx hb dL_law_547 rfl (lv_at hl 0 rfl) ?_
        refine lv_iload hx hb dL_law_548 (lv_at hl 4 rfl) ?_
        refine lv_iconst (v := 3) hx hb dL_law_550 (by decide) ?_
        refine lv_iadd hx hb dL_law_551 ?_
        refine va_sld hx hb hX hbl hbA hC.2.2.1 hin3 dL_law_552 ?_
        refine z_name hp3 ?_
        refine lv_aload_n hx hb dL_law_553 rfl (lv_at hl 3 rfl) ?_
        obtain ⟨res, hf1, hf2, hS⟩ := hS_4 j K L c r p1 p2 p3 hj hI
        refine z_wcall (z_rW (As := [.ref ms, .int p1, .int p2, .int p3, .ref ou]) (rest := []) ⟨hx, hb, hml, hown, hts⟩ (c_L_trader (l := l) (D := D) (cy := cy) (base := s.heap.size) (st := stx) (K := K) (L := L) (c := c) (r := r) (o := o) (z := z) ms p1 p2 p3 ou hk1 hk3 hst hf1 hf2) (vx_cwSW 5 hts gL_law_L_trader rfl rfl rfl (by decide +kernel) ⟨(Nat.le_of_ble_eq_true rfl), (Nat.le_of_ble_eq_true rfl)⟩) hG hC rfl hl.1 rfl (lv_room (Nat.le_of_ble_eq_true rfl)) dL_law_554 ⟨show 600 + 16 * j + 9 ≤ 601024 by omega, show 60000 + 100 * j + 68 ≤ 7293034 by omega⟩) hC (fun rr u H locs hpost hC => ?_)
        obtain ⟨bb, r1, hm, hth, hval, hI⟩ := hS rr u hpost
        have hval := fun h : rr = 0 => (congrArg (zl u.2.2 170 ou) sb_cl0).trans (hval h)
        obtain ⟨hk1, hk2, hk3⟩ := hIK _ _ _ _ _ hI
        have hthr : f_X7_thrown u.1 z r1 mo = some (zi r1 0 mo 0) := rfl
        refine lv_istore (lv' := [(5, .int rr), (0, .ref b), (1, .ref ms), (2, .ref mo), (3, .ref ou), (4, .int (nI (5 * j)))]) hx hb dL_law_557 hl (by decide) rfl (fun ls hl => ?_)
        refine lv_aload_n hx hb dL_law_559 rfl (lv_at hl 3 rfl) ?_
        refine lv_aload_n hx hb dL_law_560 rfl (lv_at hl 1 rfl) ?_
        refine lv_iload hx hb dL_law_561 (lv_at hl 5 rfl) ?_
        refine lv_iconst (v := 1) hx hb dL_law_563 (by decide) ?_
        refine lv_iadd hx hb dL_law_564 ?_
        refine va_sld hx hb hX hbl hbA hC.2.2.1 hin1 dL_law_565 ?_
        refine z_name hp1 ?_
        refine lv_aload_n hx hb dL_law_566 rfl (lv_at hl 1 rfl) ?_
        refine lv_iload hx hb dL_law_567 (lv_at hl 5 rfl) ?_
        refine lv_iconst (v := 2) hx hb dL_law_569 (by decide) ?_
        refine lv_iadd hx hb dL_law_570 ?_
        refine va_sld hx hb hX hbl hbA hC.2.2.1 hin2 dL_law_571 ?_
        refine z_name hp2 ?_
        refine lv_aload_n hx hb dL_law_572 rfl (lv_at hl 1 rfl) ?_
        refine lv_iload hx hb dL_law_573 (lv_at hl 5 rfl) ?_
        refine lv_iconst (v := 3) hx hb dL_law_575 (by decide) ?_
        refine lv_iadd hx hb dL_law_576 ?_
        refine va_sld hx hb hX hbl hbA hC.2.2.1 hin3 dL_law_577 ?_
        refine z_name hp3 ?_
        refine z_ci (z_rV (As := [.int p1, .int p2, .int p3]) (rest := []) ⟨hx, hb, hml, hown, hts⟩ (c_X7_trader (l := l) (D := D) (cy := cy) (base := s.heap.size) (st := stx) (K := u.1) (L := u.2.1) (c := u.2.2) (r := r) (o := o) (z := z) mo p1 p2 p3 hk2 hm) (cwV 3 hts gL_law_X7_trader rfl rfl rfl (by decide +kernel) ⟨(Nat.le_of_ble_eq_true rfl), (Nat.le_of_ble_eq_true rfl)⟩) hG hC (zC.recv (ci := 7) (fs := _) hK hC (by rw [hk2]; decide) (by rw [hk2]; exact zc_7 cy _ _) rfl) rfl hl.1 rfl (lv_room (Nat.le_of_ble_eq_true rfl)) dL_law_578 ⟨show 600 + 16 * j + 9 + 0 ≤ 601024 by omega, show 60000 + 100 * j + 68 + 0 ≤ 7293034 by omega⟩) hC (fun H locs hC => ?_)
        refine lv_istore (lv' := [(6, .int bb), (5, .int rr), (0, .ref b), (1, .ref ms), (2, .ref mo), (3, .ref ou), (4, .int (nI (5 * j)))]) hx hb dL_law_581 hl (by decide) rfl (fun ls hl => ?_)
        refine lv_aload_n hx hb dL_law_583 rfl (lv_at hl 4 rfl) ?_
        refine z_ci (z_rV (As := []) (rest := []) ⟨hx, hb, hml, hown, hts⟩ (c_X7_thrown (l := l) (D := D) (cy := cy) (base := s.heap.size) (st := stx) (K := u.1) (L := u.2.1) (c := u.2.2) (r := r1) (o := o) (z := z) mo hk2 hthr) (cwV 0 hts gL_law_X7_thrown rfl rfl rfl (by decide +kernel) ⟨(Nat.le_of_ble_eq_true rfl), (Nat.le_of_ble_eq_true rfl)⟩) hG hC (zC.recv (ci := 7) (fs := _) hK hC (by rw [hk2]; decide) (by rw [hk2]; exact zc_7 cy _ _) rfl) rfl hl.1 rfl (lv_room (Nat.le_of_ble_eq_true rfl)) dL_law_584 ⟨show 600 + 16 * j + 9 + 0 ≤ 601024 by omega, show 60000 + 100 * j + 68 + 0 ≤ 7293034 by omega⟩) hC (fun H locs hC => ?_)
        refine lv_iload hx hb dL_law_587 (lv_at hl 1 rfl) ?_
        refine lv_icmp_eq (tgt := 594) hx hb dL_law_589 (by decide) (fun h9 => ?_) (fun h9 => absurd hth h9)
        refine lv_iload hx hb dL_law_594 (lv_at hl 1 rfl) ?_
        refine lv_if_ne (tgt := 611) hx hb dL_law_596 (by decide) (fun h0 => ?_) (fun h0 => ?_)
        · refine lv_goto (tgt := 2032) hx hb dL_law_611 (by decide) ?_
          exact NEXT u.1 u.2.1 u.2.2 r1 _ _ ls _ _ hI hC (lv_sub hl [2, 3, 4, 5, 6] rfl) (by omega) (by omega)
        · refine lv_aload_n hx hb dL_law_599 rfl (lv_at hl 5 rfl) ?_
          refine lv_iconst (v := 0) hx hb dL_law_600 (by decide) ?_
          refine xg_17 hx hb hK hC hk3 (by unfold vp_in; decide) dL_law_601 ?_
          refine lv_iload hx hb dL_law_602 (lv_at hl 0 rfl) ?_
          refine lv_i2l (v := (Int32.toInt64 bb)) hx hb dL_law_604 rfl ?_
          refine W.lcmp hx hb dL_law_605 ?_
          refine lv_if_eq (tgt := 611) hx hb dL_law_606 (by decide) (fun h9 => ?_) (fun h9 => absurd (z_cmp (hval h0)) h9)
          refine lv_goto (tgt := 2032) hx hb dL_law_611 (by decide) ?_
          exact NEXT u.1 u.2.1 u.2.2 r1 _ _ ls _ _ hI hC (lv_sub hl [2, 3, 4, 5, 6] rfl) (by omega) (by omega)
      by_cases y5 : y = 5
      · refine z_name y5.symm ?_
        refine lv_tableIn (off := 575) (tgt := 614) hx hb dL_law_39 (by decide) (by decide) (by decide) (by decide) ?_
        refine lv_aload_n hx hb dL_law_614 rfl (lv_at hl 1 rfl) ?_
        refine lv_aload_n hx hb dL_law_615 rfl (lv_at hl 0 rfl) ?_
        refine lv_iload hx hb dL_law_616 (lv_at hl 4 rfl) ?_
        refine lv_iconst (v := 1) hx hb dL_law_618 (by decide) ?_
        refine lv_iadd hx hb dL_law_619 ?_
        refine va_sld hx hb hX hbl hbA hC.2.2.1 hin1 dL_law_620 ?_
        refine z_name hp1 ?_
        refine lv_aload_n hx hb dL_law_621 rfl (lv_at hl 0 rfl) ?_
        refine lv_iload hx hb dL_law_622 (lv_at hl 4 rfl) ?_
        refine lv_iconst (v := 2) hx hb dL_law_624 (by decide) ?_
        refine lv_iadd hx hb dL_law_625 ?_
        refine va_sld hx hb hX hbl hbA hC.2.2.1 hin2 dL_law_626 ?_
        refine z_name hp2 ?_
        refine lv_aload_n hx hb dL_law_627 rfl (lv_at hl 0 rfl) ?_
        refine lv_iload hx hb dL_law_628 (lv_at hl 4 rfl) ?_
        refine lv_iconst (v := 3) hx hb dL_law_630 (by decide) ?_
        refine lv_iadd hx hb dL_law_631 ?_
        refine va_sld hx hb hX hbl hbA hC.2.2.1 hin3 dL_law_632 ?_
        refine z_name hp3 ?_
        obtain ⟨res, hf1, hf2, hS⟩ := hS_5 j K L c r p1 p2 p3 hj hI
        refine z_wcall (z_rW (As := [.ref ms, .int p1, .int p2, .int p3]) (rest := []) ⟨hx, hb, hml, hown, hts⟩ (c_L_pitch (l := l) (D := D) (cy := cy) (base := s.heap.size) (st := stx) (K := K) (L := L) (c := c) (r := r) (o := o) (z := z) ms p1 p2 p3 hk1 hst hf1 hf2) (vx_cwSW 4 hts gL_law_L_pitch rfl rfl rfl (by decide +kernel) ⟨(Nat.le_of_ble_eq_true rfl), (Nat.le_of_ble_eq_true rfl)⟩) hG hC rfl hl.1 rfl (lv_room (Nat.le_of_ble_eq_true rfl)) dL_law_633 ⟨show 600 + 16 * j + 3 ≤ 601024 by omega, show 60000 + 100 * j + 18 ≤ 7293034 by omega⟩) hC (fun rr u H locs hpost hC => ?_)
        obtain ⟨r1, hm, hth, hI⟩ := hS rr u hpost
        obtain ⟨hk1, hk2, hk3⟩ := hIK _ _ _ _ _ hI
        have hthr : f_X7_thrown u.1 z r1 mo = some (zi r1 0 mo 0) := rfl
        refine lv_istore (lv' := [(5, .int rr), (0, .ref b), (1, .ref ms), (2, .ref mo), (3, .ref ou), (4, .int (nI (5 * j)))]) hx hb dL_law_636 hl (by decide) rfl (fun ls hl => ?_)
        refine lv_aload_n hx hb dL_law_638 rfl (lv_at hl 3 rfl) ?_
        refine lv_aload_n hx hb dL_law_639 rfl (lv_at hl 1 rfl) ?_
        refine lv_iload hx hb dL_law_640 (lv_at hl 5 rfl) ?_
        refine lv_iconst (v := 1) hx hb dL_law_642 (by decide) ?_
        refine lv_iadd hx hb dL_law_643 ?_
        refine va_sld hx hb hX hbl hbA hC.2.2.1 hin1 dL_law_644 ?_
        refine z_name hp1 ?_
        refine lv_aload_n hx hb dL_law_645 rfl (lv_at hl 1 rfl) ?_
        refine lv_iload hx hb dL_law_646 (lv_at hl 5 rfl) ?_
        refine lv_iconst (v := 2) hx hb dL_law_648 (by decide) ?_
        refine lv_iadd hx hb dL_law_649 ?_
        refine va_sld hx hb hX hbl hbA hC.2.2.1 hin2 dL_law_650 ?_
        refine z_name hp2 ?_
        refine lv_aload_n hx hb dL_law_651 rfl (lv_at hl 1 rfl) ?_
        refine lv_iload hx hb dL_law_652 (lv_at hl 5 rfl) ?_
        refine lv_iconst (v := 3) hx hb dL_law_654 (by decide) ?_
        refine lv_iadd hx hb dL_law_655 ?_
        refine va_sld hx hb hX hbl hbA hC.2.2.1 hin3 dL_law_656 ?_
        refine z_name hp3 ?_
        refine z_cv (z_rV (As := [.int p1, .int p2, .int p3]) (rest := []) ⟨hx, hb, hml, hown, hts⟩ (c_X7_pitch (l := l) (D := D) (cy := cy) (base := s.heap.size) (st := stx) (K := u.1) (L := u.2.1) (c := u.2.2) (r := r) (o := o) (z := z) mo p1 p2 p3 hk2 hm) (cwV 3 hts gL_law_X7_pitch rfl rfl rfl (by decide +kernel) ⟨(Nat.le_of_ble_eq_true rfl), (Nat.le_of_ble_eq_true rfl)⟩) hG hC (zC.recv (ci := 7) (fs := _) hK hC (by rw [hk2]; decide) (by rw [hk2]; exact zc_7 cy _ _) rfl) rfl hl.1 rfl (lv_room (Nat.le_of_ble_eq_true rfl)) dL_law_657 ⟨show 600 + 16 * j + 3 + 0 ≤ 601024 by omega, show 60000 + 100 * j + 18 + 0 ≤ 7293034 by omega⟩) hC (fun H locs hC => ?_)
        refine lv_aload_n hx hb dL_law_660 rfl (lv_at hl 3 rfl) ?_
        refine z_ci (z_rV (As := []) (rest := []) ⟨hx, hb, hml, hown, hts⟩ (c_X7_thrown (l := l) (D := D) (cy := cy) (base := s.heap.size) (st := stx) (K := u.1) (L := u.2.1) (c := u.2.2) (r := r1) (o := o) (z := z) mo hk2 hthr) (cwV 0 hts gL_law_X7_thrown rfl rfl rfl (by decide +kernel) ⟨(Nat.le_of_ble_eq_true rfl), (Nat.le_of_ble_eq_true rfl)⟩) hG hC (zC.recv (ci := 7) (fs := _) hK hC (by rw [hk2]; decide) (by rw [hk2]; exact zc_7 cy _ _) rfl) rfl hl.1 rfl (lv_room (Nat.le_of_ble_eq_true rfl)) dL_law_661 ⟨show 600 + 16 * j + 3 + 0 ≤ 601024 by omega, show 60000 + 100 * j + 18 + 0 ≤ 7293034 by omega⟩) hC (fun H locs hC => ?_)
        refine lv_iload hx hb dL_law_664 (lv_at hl 0 rfl) ?_
        refine lv_icmp_eq (tgt := 671) hx hb dL_law_666 (by decide) (fun h9 => ?_) (fun h9 => absurd hth h9)
        refine lv_goto (tgt := 2032) hx hb dL_law_671 (by decide) ?_
        exact NEXT u.1 u.2.1 u.2.2 r1 _ _ ls _ _ hI hC (lv_sub hl [1, 2, 3, 4, 5] rfl) (by omega) (by omega)
      by_cases y6 : y = 6
      · refine z_name y6.symm ?_
        refine lv_tableIn (off := 635) (tgt := 674) hx hb dL_law_39 (by decide) (by decide) (by decide) (by decide) ?_
        refine lv_aload_n hx hb dL_law_674 rfl (lv_at hl 1 rfl) ?_
        refine lv_aload_n hx hb dL_law_675 rfl (lv_at hl 0 rfl) ?_
        refine lv_iload hx hb dL_law_676 (lv_at hl 4 rfl) ?_
        refine lv_iconst (v := 1) hx hb dL_law_678 (by decide) ?_
        refine lv_iadd hx hb dL_law_679 ?_
        refine va_sld hx hb hX hbl hbA hC.2.2.1 hin1 dL_law_680 ?_
        refine z_name hp1 ?_
        refine lv_aload_n hx hb dL_law_681 rfl (lv_at hl 0 rfl) ?_
        refine lv_iload hx hb dL_law_682 (lv_at hl 4 rfl) ?_
        refine lv_iconst (v := 2) hx hb dL_law_684 (by decide) ?_
        refine lv_iadd hx hb dL_law_685 ?_
        refine va_sld hx hb hX hbl hbA hC.2.2.1 hin2 dL_law_686 ?_
        refine z_name hp2 ?_
        obtain ⟨res, hf1, hf2, hS⟩ := hS_6 j K L c r p1 p2 hj hI
        refine z_wcall (z_rW (As := [.ref ms, .int p1, .int p2]) (rest := []) ⟨hx, hb, hml, hown, hts⟩ (c_L_months (l := l) (D := D) (cy := cy) (base := s.heap.size) (st := stx) (K := K) (L := L) (c := c) (r := r) (o := o) (z := z) ms p1 p2 hk1 hst hf1 hf2) (vx_cwSW 3 hts gL_law_L_months rfl rfl rfl (by decide +kernel) ⟨(Nat.le_of_ble_eq_true rfl), (Nat.le_of_ble_eq_true rfl)⟩) hG hC rfl hl.1 rfl (lv_room (Nat.le_of_ble_eq_true rfl)) dL_law_687 ⟨show 600 + 16 * j + 3 ≤ 601024 by omega, show 60000 + 100 * j + 18 ≤ 7293034 by omega⟩) hC (fun rr u H locs hpost hC => ?_)
        obtain ⟨r1, hm, hth, hI⟩ := hS rr u hpost
        obtain ⟨hk1, hk2, hk3⟩ := hIK _ _ _ _ _ hI
        have hthr : f_X7_thrown u.1 z r1 mo = some (zi r1 0 mo 0) := rfl
        refine lv_istore (lv' := [(5, .int rr), (0, .ref b), (1, .ref ms), (2, .ref mo), (3, .ref ou), (4, .int (nI (5 * j)))]) hx hb dL_law_690 hl (by decide) rfl (fun ls hl => ?_)
        refine lv_aload_n hx hb dL_law_692 rfl (lv_at hl 3 rfl) ?_
        refine lv_aload_n hx hb dL_law_693 rfl (lv_at hl 1 rfl) ?_
        refine lv_iload hx hb dL_law_694 (lv_at hl 5 rfl) ?_
        refine lv_iconst (v := 1) hx hb dL_law_696 (by decide) ?_
        refine lv_iadd hx hb dL_law_697 ?_
        refine va_sld hx hb hX hbl hbA hC.2.2.1 hin1 dL_law_698 ?_
        refine z_name hp1 ?_
        refine lv_aload_n hx hb dL_law_699 rfl (lv_at hl 1 rfl) ?_
        refine lv_iload hx hb dL_law_700 (lv_at hl 5 rfl) ?_
        refine lv_iconst (v := 2) hx hb dL_law_702 (by decide) ?_
        refine lv_iadd hx hb dL_law_703 ?_
        refine va_sld hx hb hX hbl hbA hC.2.2.1 hin2 dL_law_704 ?_
        refine z_name hp2 ?_
        refine z_cv (z_rV (As := [.int p1, .int p2]) (rest := []) ⟨hx, hb, hml, hown, hts⟩ (c_X7_months (l := l) (D := D) (cy := cy) (base := s.heap.size) (st := stx) (K := u.1) (L := u.2.1) (c := u.2.2) (r := r) (o := o) (z := z) mo p1 p2 hk2 hm) (cwV 2 hts gL_law_X7_months rfl rfl rfl (by decide +kernel) ⟨(Nat.le_of_ble_eq_true rfl), (Nat.le_of_ble_eq_true rfl)⟩) hG hC (zC.recv (ci := 7) (fs := _) hK hC (by rw [hk2]; decide) (by rw [hk2]; exact zc_7 cy _ _) rfl) rfl hl.1 rfl (lv_room (Nat.le_of_ble_eq_true rfl)) dL_law_705 ⟨show 600 + 16 * j + 3 + 0 ≤ 601024 by omega, show 60000 + 100 * j + 18 + 0 ≤ 7293034 by omega⟩) hC (fun H locs hC => ?_)
        refine lv_aload_n hx hb dL_law_708 rfl (lv_at hl 3 rfl) ?_
        refine z_ci (z_rV (As := []) (rest := []) ⟨hx, hb, hml, hown, hts⟩ (c_X7_thrown (l := l) (D := D) (cy := cy) (base := s.heap.size) (st := stx) (K := u.1) (L := u.2.1) (c := u.2.2) (r := r1) (o := o) (z := z) mo hk2 hthr) (cwV 0 hts gL_law_X7_thrown rfl rfl rfl (by decide +kernel) ⟨(Nat.le_of_ble_eq_true rfl), (Nat.le_of_ble_eq_true rfl)⟩) hG hC (zC.recv (ci := 7) (fs := _) hK hC (by rw [hk2]; decide) (by rw [hk2]; exact zc_7 cy _ _) rfl) rfl hl.1 rfl (lv_room (Nat.le_of_ble_eq_true rfl)) dL_law_709 ⟨show 600 + 16 * j + 3 + 0 ≤ 601024 by omega, show 60000 + 100 * j + 18 + 0 ≤ 7293034 by omega⟩) hC (fun H locs hC => ?_)
        refine lv_iload hx hb dL_law_712 (lv_at hl 0 rfl) ?_
        refine lv_icmp_eq (tgt := 719) hx hb dL_law_714 (by decide) (fun h9 => ?_) (fun h9 => absurd hth h9)
        refine lv_goto (tgt := 2032) hx hb dL_law_719 (by decide) ?_
        exact NEXT u.1 u.2.1 u.2.2 r1 _ _ ls _ _ hI hC (lv_sub hl [1, 2, 3, 4, 5] rfl) (by omega) (by omega)
      by_cases y7 : y = 7
      · refine z_name y7.symm ?_
        refine lv_tableIn (off := 683) (tgt := 722) hx hb dL_law_39 (by decide) (by decide) (by decide) (by decide) ?_
        refine lv_aload_n hx hb dL_law_722 rfl (lv_at hl 1 rfl) ?_
        refine lv_aload_n hx hb dL_law_723 rfl (lv_at hl 0 rfl) ?_
        refine lv_iload hx hb dL_law_724 (lv_at hl 4 rfl) ?_
        refine lv_iconst (v := 1) hx hb dL_law_726 (by decide) ?_
        refine lv_iadd hx hb dL_law_727 ?_
        refine va_sld hx hb hX hbl hbA hC.2.2.1 hin1 dL_law_728 ?_
        refine z_name hp1 ?_
        refine lv_aload_n hx hb dL_law_729 rfl (lv_at hl 0 rfl) ?_
        refine lv_iload hx hb dL_law_730 (lv_at hl 4 rfl) ?_
        refine lv_iconst (v := 2) hx hb dL_law_732 (by decide) ?_
        refine lv_iadd hx hb dL_law_733 ?_
        refine va_sld hx hb hX hbl hbA hC.2.2.1 hin2 dL_law_734 ?_
        refine z_name hp2 ?_
        refine lv_aload_n hx hb dL_law_735 rfl (lv_at hl 0 rfl) ?_
        refine lv_iload hx hb dL_law_736 (lv_at hl 4 rfl) ?_
        refine lv_iconst (v := 3) hx hb dL_law_738 (by decide) ?_
        refine lv_iadd hx hb dL_law_739 ?_
        refine va_sld hx hb hX hbl hbA hC.2.2.1 hin3 dL_law_740 ?_
        refine z_name hp3 ?_
        refine lv_aload_n hx hb dL_law_741 rfl (lv_at hl 3 rfl) ?_
        obtain ⟨res, hf1, hf2, hS⟩ := hS_7 j K L c r p1 p2 p3 hj hI
        refine z_wcall (z_rW (As := [.ref ms, .int p1, .int p2, .int p3, .ref ou]) (rest := []) ⟨hx, hb, hml, hown, hts⟩ (c_L_wish (l := l) (D := D) (cy := cy) (base := s.heap.size) (st := stx) (K := K) (L := L) (c := c) (r := r) (o := o) (z := z) ms p1 p2 p3 ou hk1 hk3 hst hf1 hf2) (vx_cwSW 5 hts gL_law_L_wish rfl rfl rfl (by decide +kernel) ⟨(Nat.le_of_ble_eq_true rfl), (Nat.le_of_ble_eq_true rfl)⟩) hG hC rfl hl.1 rfl (lv_room (Nat.le_of_ble_eq_true rfl)) dL_law_742 ⟨show 600 + 16 * j + 1 ≤ 601024 by omega, show 60000 + 100 * j + 6 ≤ 7293034 by omega⟩) hC (fun rr u H locs hpost hC => ?_)
        obtain ⟨bb, r1, hm, hth, hval, hI⟩ := hS rr u hpost
        have hval := fun h : rr = 0 => (congrArg (zl u.2.2 170 ou) sb_cl0).trans (hval h)
        obtain ⟨hk1, hk2, hk3⟩ := hIK _ _ _ _ _ hI
        have hthr : f_X7_thrown u.1 z r1 mo = some (zi r1 0 mo 0) := rfl
        refine lv_istore (lv' := [(5, .int rr), (0, .ref b), (1, .ref ms), (2, .ref mo), (3, .ref ou), (4, .int (nI (5 * j)))]) hx hb dL_law_745 hl (by decide) rfl (fun ls hl => ?_)
        refine lv_aload_n hx hb dL_law_747 rfl (lv_at hl 3 rfl) ?_
        refine lv_aload_n hx hb dL_law_748 rfl (lv_at hl 1 rfl) ?_
        refine lv_iload hx hb dL_law_749 (lv_at hl 5 rfl) ?_
        refine lv_iconst (v := 1) hx hb dL_law_751 (by decide) ?_
        refine lv_iadd hx hb dL_law_752 ?_
        refine va_sld hx hb hX hbl hbA hC.2.2.1 hin1 dL_law_753 ?_
        refine z_name hp1 ?_
        refine lv_aload_n hx hb dL_law_754 rfl (lv_at hl 1 rfl) ?_
        refine lv_iload hx hb dL_law_755 (lv_at hl 5 rfl) ?_
        refine lv_iconst (v := 2) hx hb dL_law_757 (by decide) ?_
        refine lv_iadd hx hb dL_law_758 ?_
        refine va_sld hx hb hX hbl hbA hC.2.2.1 hin2 dL_law_759 ?_
        refine z_name hp2 ?_
        refine lv_aload_n hx hb dL_law_760 rfl (lv_at hl 1 rfl) ?_
        refine lv_iload hx hb dL_law_761 (lv_at hl 5 rfl) ?_
        refine lv_iconst (v := 3) hx hb dL_law_763 (by decide) ?_
        refine lv_iadd hx hb dL_law_764 ?_
        refine va_sld hx hb hX hbl hbA hC.2.2.1 hin3 dL_law_765 ?_
        refine z_name hp3 ?_
        refine z_ci (z_rV (As := [.int p1, .int p2, .int p3]) (rest := []) ⟨hx, hb, hml, hown, hts⟩ (c_X7_wish (l := l) (D := D) (cy := cy) (base := s.heap.size) (st := stx) (K := u.1) (L := u.2.1) (c := u.2.2) (r := r) (o := o) (z := z) mo p1 p2 p3 hk2 hm) (cwV 3 hts gL_law_X7_wish rfl rfl rfl (by decide +kernel) ⟨(Nat.le_of_ble_eq_true rfl), (Nat.le_of_ble_eq_true rfl)⟩) hG hC (zC.recv (ci := 7) (fs := _) hK hC (by rw [hk2]; decide) (by rw [hk2]; exact zc_7 cy _ _) rfl) rfl hl.1 rfl (lv_room (Nat.le_of_ble_eq_true rfl)) dL_law_766 ⟨show 600 + 16 * j + 1 + 0 ≤ 601024 by omega, show 60000 + 100 * j + 6 + 0 ≤ 7293034 by omega⟩) hC (fun H locs hC => ?_)
        refine lv_istore (lv' := [(6, .int bb), (5, .int rr), (0, .ref b), (1, .ref ms), (2, .ref mo), (3, .ref ou), (4, .int (nI (5 * j)))]) hx hb dL_law_769 hl (by decide) rfl (fun ls hl => ?_)
        refine lv_aload_n hx hb dL_law_771 rfl (lv_at hl 4 rfl) ?_
        refine z_ci (z_rV (As := []) (rest := []) ⟨hx, hb, hml, hown, hts⟩ (c_X7_thrown (l := l) (D := D) (cy := cy) (base := s.heap.size) (st := stx) (K := u.1) (L := u.2.1) (c := u.2.2) (r := r1) (o := o) (z := z) mo hk2 hthr) (cwV 0 hts gL_law_X7_thrown rfl rfl rfl (by decide +kernel) ⟨(Nat.le_of_ble_eq_true rfl), (Nat.le_of_ble_eq_true rfl)⟩) hG hC (zC.recv (ci := 7) (fs := _) hK hC (by rw [hk2]; decide) (by rw [hk2]; exact zc_7 cy _ _) rfl) rfl hl.1 rfl (lv_room (Nat.le_of_ble_eq_true rfl)) dL_law_772 ⟨show 600 + 16 * j + 1 + 0 ≤ 601024 by omega, show 60000 + 100 * j + 6 + 0 ≤ 7293034 by omega⟩) hC (fun H locs hC => ?_)
        refine lv_iload hx hb dL_law_775 (lv_at hl 1 rfl) ?_
        refine lv_icmp_eq (tgt := 782) hx hb dL_law_777 (by decide) (fun h9 => ?_) (fun h9 => absurd hth h9)
        refine lv_iload hx hb dL_law_782 (lv_at hl 1 rfl) ?_
        refine lv_if_ne (tgt := 799) hx hb dL_law_784 (by decide) (fun h0 => ?_) (fun h0 => ?_)
        · refine lv_goto (tgt := 2032) hx hb dL_law_799 (by decide) ?_
          exact NEXT u.1 u.2.1 u.2.2 r1 _ _ ls _ _ hI hC (lv_sub hl [2, 3, 4, 5, 6] rfl) (by omega) (by omega)
        · refine lv_aload_n hx hb dL_law_787 rfl (lv_at hl 5 rfl) ?_
          refine lv_iconst (v := 0) hx hb dL_law_788 (by decide) ?_
          refine xg_17 hx hb hK hC hk3 (by unfold vp_in; decide) dL_law_789 ?_
          refine lv_iload hx hb dL_law_790 (lv_at hl 0 rfl) ?_
          refine lv_i2l (v := (Int32.toInt64 bb)) hx hb dL_law_792 rfl ?_
          refine W.lcmp hx hb dL_law_793 ?_
          refine lv_if_eq (tgt := 799) hx hb dL_law_794 (by decide) (fun h9 => ?_) (fun h9 => absurd (z_cmp (hval h0)) h9)
          refine lv_goto (tgt := 2032) hx hb dL_law_799 (by decide) ?_
          exact NEXT u.1 u.2.1 u.2.2 r1 _ _ ls _ _ hI hC (lv_sub hl [2, 3, 4, 5, 6] rfl) (by omega) (by omega)
      by_cases y8 : y = 8
      · refine z_name y8.symm ?_
        refine lv_tableIn (off := 763) (tgt := 802) hx hb dL_law_39 (by decide) (by decide) (by decide) (by decide) ?_
        refine lv_aload_n hx hb dL_law_802 rfl (lv_at hl 1 rfl) ?_
        refine lv_aload_n hx hb dL_law_803 rfl (lv_at hl 0 rfl) ?_
        refine lv_iload hx hb dL_law_804 (lv_at hl 4 rfl) ?_
        refine lv_iconst (v := 1) hx hb dL_law_806 (by decide) ?_
        refine lv_iadd hx hb dL_law_807 ?_
        refine va_sld hx hb hX hbl hbA hC.2.2.1 hin1 dL_law_808 ?_
        refine z_name hp1 ?_
        refine lv_aload_n hx hb dL_law_809 rfl (lv_at hl 0 rfl) ?_
        refine lv_iload hx hb dL_law_810 (lv_at hl 4 rfl) ?_
        refine lv_iconst (v := 2) hx hb dL_law_812 (by decide) ?_
        refine lv_iadd hx hb dL_law_813 ?_
        refine va_sld hx hb hX hbl hbA hC.2.2.1 hin2 dL_law_814 ?_
        refine z_name hp2 ?_
        refine z_bi hx hb (t0 := 822) (t1 := 823) dL_law_815 (by decide) dL_law_818 dL_law_819 (by decide) dL_law_822 rfl ?_
        obtain ⟨res, hf1, hf2, hS⟩ := hS_8 j K L c r p1 p2 hj hI
        refine z_wcall (z_rW (As := [.ref ms, .int p1, .int (if p2 = 0 then 0 else 1)]) (rest := []) ⟨hx, hb, hml, hown, hts⟩ (c_L_wishes (l := l) (D := D) (cy := cy) (base := s.heap.size) (st := stx) (K := K) (L := L) (c := c) (r := r) (o := o) (z := z) ms p1 (if p2 = 0 then 0 else 1) hk1 hst hf1 hf2) (vx_cwSW 3 hts gL_law_L_wishes rfl rfl rfl (by decide +kernel) ⟨(Nat.le_of_ble_eq_true rfl), (Nat.le_of_ble_eq_true rfl)⟩) hG hC rfl hl.1 rfl (lv_room (Nat.le_of_ble_eq_true rfl)) dL_law_823 ⟨show 600 + 16 * j + 1 ≤ 601024 by omega, show 60000 + 100 * j + 6 ≤ 7293034 by omega⟩) hC (fun rr u H locs hpost hC => ?_)
        obtain ⟨r1, hm, hth, hI⟩ := hS rr u hpost
        obtain ⟨hk1, hk2, hk3⟩ := hIK _ _ _ _ _ hI
        have hthr : f_X7_thrown u.1 z r1 mo = some (zi r1 0 mo 0) := rfl
        refine lv_istore (lv' := [(5, .int rr), (0, .ref b), (1, .ref ms), (2, .ref mo), (3, .ref ou), (4, .int (nI (5 * j)))]) hx hb dL_law_826 hl (by decide) rfl (fun ls hl => ?_)
        refine lv_aload_n hx hb dL_law_828 rfl (lv_at hl 3 rfl) ?_
        refine lv_aload_n hx hb dL_law_829 rfl (lv_at hl 1 rfl) ?_
        refine lv_iload hx hb dL_law_830 (lv_at hl 5 rfl) ?_
        refine lv_iconst (v := 1) hx hb dL_law_832 (by decide) ?_
        refine lv_iadd hx hb dL_law_833 ?_
        refine va_sld hx hb hX hbl hbA hC.2.2.1 hin1 dL_law_834 ?_
        refine z_name hp1 ?_
        refine lv_aload_n hx hb dL_law_835 rfl (lv_at hl 1 rfl) ?_
        refine lv_iload hx hb dL_law_836 (lv_at hl 5 rfl) ?_
        refine lv_iconst (v := 2) hx hb dL_law_838 (by decide) ?_
        refine lv_iadd hx hb dL_law_839 ?_
        refine va_sld hx hb hX hbl hbA hC.2.2.1 hin2 dL_law_840 ?_
        refine z_name hp2 ?_
        refine z_bi hx hb (t0 := 848) (t1 := 849) dL_law_841 (by decide) dL_law_844 dL_law_845 (by decide) dL_law_848 rfl ?_
        refine z_cv (z_rV (As := [.int p1, .int (if p2 = 0 then 0 else 1)]) (rest := []) ⟨hx, hb, hml, hown, hts⟩ (c_X7_wishes (l := l) (D := D) (cy := cy) (base := s.heap.size) (st := stx) (K := u.1) (L := u.2.1) (c := u.2.2) (r := r) (o := o) (z := z) mo p1 (if p2 = 0 then 0 else 1) hk2 hm) (cwV 2 hts gL_law_X7_wishes rfl rfl rfl (by decide +kernel) ⟨(Nat.le_of_ble_eq_true rfl), (Nat.le_of_ble_eq_true rfl)⟩) hG hC (zC.recv (ci := 7) (fs := _) hK hC (by rw [hk2]; decide) (by rw [hk2]; exact zc_7 cy _ _) rfl) rfl hl.1 rfl (lv_room (Nat.le_of_ble_eq_true rfl)) dL_law_849 ⟨show 600 + 16 * j + 1 + 0 ≤ 601024 by omega, show 60000 + 100 * j + 6 + 0 ≤ 7293034 by omega⟩) hC (fun H locs hC => ?_)
        refine lv_aload_n hx hb dL_law_852 rfl (lv_at hl 3 rfl) ?_
        refine z_ci (z_rV (As := []) (rest := []) ⟨hx, hb, hml, hown, hts⟩ (c_X7_thrown (l := l) (D := D) (cy := cy) (base := s.heap.size) (st := stx) (K := u.1) (L := u.2.1) (c := u.2.2) (r := r1) (o := o) (z := z) mo hk2 hthr) (cwV 0 hts gL_law_X7_thrown rfl rfl rfl (by decide +kernel) ⟨(Nat.le_of_ble_eq_true rfl), (Nat.le_of_ble_eq_true rfl)⟩) hG hC (zC.recv (ci := 7) (fs := _) hK hC (by rw [hk2]; decide) (by rw [hk2]; exact zc_7 cy _ _) rfl) rfl hl.1 rfl (lv_room (Nat.le_of_ble_eq_true rfl)) dL_law_853 ⟨show 600 + 16 * j + 1 + 0 ≤ 601024 by omega, show 60000 + 100 * j + 6 + 0 ≤ 7293034 by omega⟩) hC (fun H locs hC => ?_)
        refine lv_iload hx hb dL_law_856 (lv_at hl 0 rfl) ?_
        refine lv_icmp_eq (tgt := 863) hx hb dL_law_858 (by decide) (fun h9 => ?_) (fun h9 => absurd hth h9)
        refine lv_goto (tgt := 2032) hx hb dL_law_863 (by decide) ?_
        exact NEXT u.1 u.2.1 u.2.2 r1 _ _ ls _ _ hI hC (lv_sub hl [1, 2, 3, 4, 5] rfl) (by omega) (by omega)
      by_cases y9 : y = 9
      · refine z_name y9.symm ?_
        refine lv_tableIn (off := 827) (tgt := 866) hx hb dL_law_39 (by decide) (by decide) (by decide) (by decide) ?_
        refine lv_aload_n hx hb dL_law_866 rfl (lv_at hl 1 rfl) ?_
        refine lv_aload_n hx hb dL_law_867 rfl (lv_at hl 0 rfl) ?_
        refine lv_iload hx hb dL_law_868 (lv_at hl 4 rfl) ?_
        refine lv_iconst (v := 1) hx hb dL_law_870 (by decide) ?_
        refine lv_iadd hx hb dL_law_871 ?_
        refine va_sld hx hb hX hbl hbA hC.2.2.1 hin1 dL_law_872 ?_
        refine z_name hp1 ?_
        refine lv_aload_n hx hb dL_law_873 rfl (lv_at hl 0 rfl) ?_
        refine lv_iload hx hb dL_law_874 (lv_at hl 4 rfl) ?_
        refine lv_iconst (v := 2) hx hb dL_law_876 (by decide) ?_
        refine lv_iadd hx hb dL_law_877 ?_
        refine va_sld hx hb hX hbl hbA hC.2.2.1 hin2 dL_law_878 ?_
        refine z_name hp2 ?_
        refine z_bi hx hb (t0 := 886) (t1 := 887) dL_law_879 (by decide) dL_law_882 dL_law_883 (by decide) dL_law_886 rfl ?_
        obtain ⟨res, hf1, hf2, hS⟩ := hS_9 j K L c r p1 p2 hj hI
        refine z_wcall (z_rW (As := [.ref ms, .int p1, .int (if p2 = 0 then 0 else 1)]) (rest := []) ⟨hx, hb, hml, hown, hts⟩ (c_L_want (l := l) (D := D) (cy := cy) (base := s.heap.size) (st := stx) (K := K) (L := L) (c := c) (r := r) (o := o) (z := z) ms p1 (if p2 = 0 then 0 else 1) hk1 hst hf1 hf2) (vx_cwSW 3 hts gL_law_L_want rfl rfl rfl (by decide +kernel) ⟨(Nat.le_of_ble_eq_true rfl), (Nat.le_of_ble_eq_true rfl)⟩) hG hC rfl hl.1 rfl (lv_room (Nat.le_of_ble_eq_true rfl)) dL_law_887 ⟨show 600 + 16 * j + 1 ≤ 601024 by omega, show 60000 + 100 * j + 6 ≤ 7293034 by omega⟩) hC (fun rr u H locs hpost hC => ?_)
        obtain ⟨r1, hm, hth, hI⟩ := hS rr u hpost
        obtain ⟨hk1, hk2, hk3⟩ := hIK _ _ _ _ _ hI
        have hthr : f_X7_thrown u.1 z r1 mo = some (zi r1 0 mo 0) := rfl
        refine lv_istore (lv' := [(5, .int rr), (0, .ref b), (1, .ref ms), (2, .ref mo), (3, .ref ou), (4, .int (nI (5 * j)))]) hx hb dL_law_890 hl (by decide) rfl (fun ls hl => ?_)
        refine lv_aload_n hx hb dL_law_892 rfl (lv_at hl 3 rfl) ?_
        refine lv_aload_n hx hb dL_law_893 rfl (lv_at hl 1 rfl) ?_
        refine lv_iload hx hb dL_law_894 (lv_at hl 5 rfl) ?_
        refine lv_iconst (v := 1) hx hb dL_law_896 (by decide) ?_
        refine lv_iadd hx hb dL_law_897 ?_
        refine va_sld hx hb hX hbl hbA hC.2.2.1 hin1 dL_law_898 ?_
        refine z_name hp1 ?_
        refine lv_aload_n hx hb dL_law_899 rfl (lv_at hl 1 rfl) ?_
        refine lv_iload hx hb dL_law_900 (lv_at hl 5 rfl) ?_
        refine lv_iconst (v := 2) hx hb dL_law_902 (by decide) ?_
        refine lv_iadd hx hb dL_law_903 ?_
        refine va_sld hx hb hX hbl hbA hC.2.2.1 hin2 dL_law_904 ?_
        refine z_name hp2 ?_
        refine z_bi hx hb (t0 := 912) (t1 := 913) dL_law_905 (by decide) dL_law_908 dL_law_909 (by decide) dL_law_912 rfl ?_
        refine z_cv (z_rV (As := [.int p1, .int (if p2 = 0 then 0 else 1)]) (rest := []) ⟨hx, hb, hml, hown, hts⟩ (c_X7_want (l := l) (D := D) (cy := cy) (base := s.heap.size) (st := stx) (K := u.1) (L := u.2.1) (c := u.2.2) (r := r) (o := o) (z := z) mo p1 (if p2 = 0 then 0 else 1) hk2 hm) (cwV 2 hts gL_law_X7_want rfl rfl rfl (by decide +kernel) ⟨(Nat.le_of_ble_eq_true rfl), (Nat.le_of_ble_eq_true rfl)⟩) hG hC (zC.recv (ci := 7) (fs := _) hK hC (by rw [hk2]; decide) (by rw [hk2]; exact zc_7 cy _ _) rfl) rfl hl.1 rfl (lv_room (Nat.le_of_ble_eq_true rfl)) dL_law_913 ⟨show 600 + 16 * j + 1 + 0 ≤ 601024 by omega, show 60000 + 100 * j + 6 + 0 ≤ 7293034 by omega⟩) hC (fun H locs hC => ?_)
        refine lv_aload_n hx hb dL_law_916 rfl (lv_at hl 3 rfl) ?_
        refine z_ci (z_rV (As := []) (rest := []) ⟨hx, hb, hml, hown, hts⟩ (c_X7_thrown (l := l) (D := D) (cy := cy) (base := s.heap.size) (st := stx) (K := u.1) (L := u.2.1) (c := u.2.2) (r := r1) (o := o) (z := z) mo hk2 hthr) (cwV 0 hts gL_law_X7_thrown rfl rfl rfl (by decide +kernel) ⟨(Nat.le_of_ble_eq_true rfl), (Nat.le_of_ble_eq_true rfl)⟩) hG hC (zC.recv (ci := 7) (fs := _) hK hC (by rw [hk2]; decide) (by rw [hk2]; exact zc_7 cy _ _) rfl) rfl hl.1 rfl (lv_room (Nat.le_of_ble_eq_true rfl)) dL_law_917 ⟨show 600 + 16 * j + 1 + 0 ≤ 601024 by omega, show 60000 + 100 * j + 6 + 0 ≤ 7293034 by omega⟩) hC (fun H locs hC => ?_)
        refine lv_iload hx hb dL_law_920 (lv_at hl 0 rfl) ?_
        refine lv_icmp_eq (tgt := 927) hx hb dL_law_922 (by decide) (fun h9 => ?_) (fun h9 => absurd hth h9)
        refine lv_goto (tgt := 2032) hx hb dL_law_927 (by decide) ?_
        exact NEXT u.1 u.2.1 u.2.2 r1 _ _ ls _ _ hI hC (lv_sub hl [1, 2, 3, 4, 5] rfl) (by omega) (by omega)
      by_cases y10 : y = 10
      · refine z_name y10.symm ?_
        refine lv_tableIn (off := 891) (tgt := 930) hx hb dL_law_39 (by decide) (by decide) (by decide) (by decide) ?_
        refine lv_aload_n hx hb dL_law_930 rfl (lv_at hl 1 rfl) ?_
        refine lv_aload_n hx hb dL_law_931 rfl (lv_at hl 0 rfl) ?_
        refine lv_iload hx hb dL_law_932 (lv_at hl 4 rfl) ?_
        refine lv_iconst (v := 1) hx hb dL_law_934 (by decide) ?_
        refine lv_iadd hx hb dL_law_935 ?_
        refine va_sld hx hb hX hbl hbA hC.2.2.1 hin1 dL_law_936 ?_
        refine z_name hp1 ?_
        refine lv_aload_n hx hb dL_law_937 rfl (lv_at hl 3 rfl) ?_
        obtain ⟨res, hf1, hf2, hS⟩ := hS_10 j K L c r p1 hj hI
        refine z_wcall (z_rW (As := [.ref ms, .int p1, .ref ou]) (rest := []) ⟨hx, hb, hml, hown, hts⟩ (c_L_day (l := l) (D := D) (cy := cy) (base := s.heap.size) (st := stx) (K := K) (L := L) (c := c) (r := r) (o := o) (z := z) ms p1 ou hk1 hk3 hst hf1 hf2) (vx_cwSW 3 hts gL_law_L_day rfl rfl rfl (by decide +kernel) ⟨(Nat.le_of_ble_eq_true rfl), (Nat.le_of_ble_eq_true rfl)⟩) hG hC rfl hl.1 rfl (lv_room (Nat.le_of_ble_eq_true rfl)) dL_law_938 ⟨show 600 + 16 * j + 2 ≤ 601024 by omega, show 60000 + 100 * j + 12 ≤ 7293034 by omega⟩) hC (fun rr u H locs hpost hC => ?_)
        obtain ⟨bb, r1, hm, hth, hval, hI⟩ := hS rr u hpost
        have hval := fun h : rr = 0 => (congrArg (zl u.2.2 170 ou) sb_cl0).trans (hval h)
        obtain ⟨hk1, hk2, hk3⟩ := hIK _ _ _ _ _ hI
        have hthr : f_X7_thrown u.1 z r1 mo = some (zi r1 0 mo 0) := rfl
        refine lv_istore (lv' := [(5, .int rr), (0, .ref b), (1, .ref ms), (2, .ref mo), (3, .ref ou), (4, .int (nI (5 * j)))]) hx hb dL_law_941 hl (by decide) rfl (fun ls hl => ?_)
        refine lv_aload_n hx hb dL_law_943 rfl (lv_at hl 3 rfl) ?_
        refine lv_aload_n hx hb dL_law_944 rfl (lv_at hl 1 rfl) ?_
        refine lv_iload hx hb dL_law_945 (lv_at hl 5 rfl) ?_
        refine lv_iconst (v := 1) hx hb dL_law_947 (by decide) ?_
        refine lv_iadd hx hb dL_law_948 ?_
        refine va_sld hx hb hX hbl hbA hC.2.2.1 hin1 dL_law_949 ?_
        refine z_name hp1 ?_
        refine z_ci (z_rV (As := [.int p1]) (rest := []) ⟨hx, hb, hml, hown, hts⟩ (c_X7_day (l := l) (D := D) (cy := cy) (base := s.heap.size) (st := stx) (K := u.1) (L := u.2.1) (c := u.2.2) (r := r) (o := o) (z := z) mo p1 hk2 hm) (cwV 1 hts gL_law_X7_day rfl rfl rfl (by decide +kernel) ⟨(Nat.le_of_ble_eq_true rfl), (Nat.le_of_ble_eq_true rfl)⟩) hG hC (zC.recv (ci := 7) (fs := _) hK hC (by rw [hk2]; decide) (by rw [hk2]; exact zc_7 cy _ _) rfl) rfl hl.1 rfl (lv_room (Nat.le_of_ble_eq_true rfl)) dL_law_950 ⟨show 600 + 16 * j + 2 + 0 ≤ 601024 by omega, show 60000 + 100 * j + 12 + 0 ≤ 7293034 by omega⟩) hC (fun H locs hC => ?_)
        refine lv_istore (lv' := [(6, .int bb), (5, .int rr), (0, .ref b), (1, .ref ms), (2, .ref mo), (3, .ref ou), (4, .int (nI (5 * j)))]) hx hb dL_law_953 hl (by decide) rfl (fun ls hl => ?_)
        refine lv_aload_n hx hb dL_law_955 rfl (lv_at hl 4 rfl) ?_
        refine z_ci (z_rV (As := []) (rest := []) ⟨hx, hb, hml, hown, hts⟩ (c_X7_thrown (l := l) (D := D) (cy := cy) (base := s.heap.size) (st := stx) (K := u.1) (L := u.2.1) (c := u.2.2) (r := r1) (o := o) (z := z) mo hk2 hthr) (cwV 0 hts gL_law_X7_thrown rfl rfl rfl (by decide +kernel) ⟨(Nat.le_of_ble_eq_true rfl), (Nat.le_of_ble_eq_true rfl)⟩) hG hC (zC.recv (ci := 7) (fs := _) hK hC (by rw [hk2]; decide) (by rw [hk2]; exact zc_7 cy _ _) rfl) rfl hl.1 rfl (lv_room (Nat.le_of_ble_eq_true rfl)) dL_law_956 ⟨show 600 + 16 * j + 2 + 0 ≤ 601024 by omega, show 60000 + 100 * j + 12 + 0 ≤ 7293034 by omega⟩) hC (fun H locs hC => ?_)
        refine lv_iload hx hb dL_law_959 (lv_at hl 1 rfl) ?_
        refine lv_icmp_eq (tgt := 966) hx hb dL_law_961 (by decide) (fun h9 => ?_) (fun h9 => absurd hth h9)
        refine lv_iload hx hb dL_law_966 (lv_at hl 1 rfl) ?_
        refine lv_if_ne (tgt := 983) hx hb dL_law_968 (by decide) (fun h0 => ?_) (fun h0 => ?_)
        · refine lv_goto (tgt := 2032) hx hb dL_law_983 (by decide) ?_
          exact NEXT u.1 u.2.1 u.2.2 r1 _ _ ls _ _ hI hC (lv_sub hl [2, 3, 4, 5, 6] rfl) (by omega) (by omega)
        · refine lv_aload_n hx hb dL_law_971 rfl (lv_at hl 5 rfl) ?_
          refine lv_iconst (v := 0) hx hb dL_law_972 (by decide) ?_
          refine xg_17 hx hb hK hC hk3 (by unfold vp_in; decide) dL_law_973 ?_
          refine lv_iload hx hb dL_law_974 (lv_at hl 0 rfl) ?_
          refine lv_i2l (v := (Int32.toInt64 bb)) hx hb dL_law_976 rfl ?_
          refine W.lcmp hx hb dL_law_977 ?_
          refine lv_if_eq (tgt := 983) hx hb dL_law_978 (by decide) (fun h9 => ?_) (fun h9 => absurd (z_cmp (hval h0)) h9)
          refine lv_goto (tgt := 2032) hx hb dL_law_983 (by decide) ?_
          exact NEXT u.1 u.2.1 u.2.2 r1 _ _ ls _ _ hI hC (lv_sub hl [2, 3, 4, 5, 6] rfl) (by omega) (by omega)
      by_cases y11 : y = 11
      · refine z_name y11.symm ?_
        refine lv_tableIn (off := 947) (tgt := 986) hx hb dL_law_39 (by decide) (by decide) (by decide) (by decide) ?_
        refine lv_aload_n hx hb dL_law_986 rfl (lv_at hl 1 rfl) ?_
        refine lv_aload_n hx hb dL_law_987 rfl (lv_at hl 0 rfl) ?_
        refine lv_iload hx hb dL_law_988 (lv_at hl 4 rfl) ?_
        refine lv_iconst (v := 1) hx hb dL_law_990 (by decide) ?_
        refine lv_iadd hx hb dL_law_991 ?_
        refine va_sld hx hb hX hbl hbA hC.2.2.1 hin1 dL_law_992 ?_
        refine z_name hp1 ?_
        refine lv_aload_n hx hb dL_law_993 rfl (lv_at hl 3 rfl) ?_
        obtain ⟨res, hf1, hf2, hS⟩ := hS_11 j K L c r p1 hj hI
        refine z_wcall (z_rW (As := [.ref ms, .int p1, .ref ou]) (rest := []) ⟨hx, hb, hml, hown, hts⟩ (c_L_there (l := l) (D := D) (cy := cy) (base := s.heap.size) (st := stx) (K := K) (L := L) (c := c) (r := r) (o := o) (z := z) ms p1 ou hk1 hk3 hst hf1 hf2) (vx_cwSW 3 hts gL_law_L_there rfl rfl rfl (by decide +kernel) ⟨(Nat.le_of_ble_eq_true rfl), (Nat.le_of_ble_eq_true rfl)⟩) hG hC rfl hl.1 rfl (lv_room (Nat.le_of_ble_eq_true rfl)) dL_law_994 ⟨show 600 + 16 * j + 2 ≤ 601024 by omega, show 60000 + 100 * j + 12 ≤ 7293034 by omega⟩) hC (fun rr u H locs hpost hC => ?_)
        obtain ⟨bb, r1, hm, hth, hval, hI⟩ := hS rr u hpost
        have hval := fun h : rr = 0 => (congrArg (zl u.2.2 170 ou) sb_cl0).trans (hval h)
        obtain ⟨hk1, hk2, hk3⟩ := hIK _ _ _ _ _ hI
        have hthr : f_X7_thrown u.1 z r1 mo = some (zi r1 0 mo 0) := rfl
        refine lv_istore (lv' := [(5, .int rr), (0, .ref b), (1, .ref ms), (2, .ref mo), (3, .ref ou), (4, .int (nI (5 * j)))]) hx hb dL_law_997 hl (by decide) rfl (fun ls hl => ?_)
        refine lv_aload_n hx hb dL_law_999 rfl (lv_at hl 3 rfl) ?_
        refine lv_aload_n hx hb dL_law_1000 rfl (lv_at hl 1 rfl) ?_
        refine lv_iload hx hb dL_law_1001 (lv_at hl 5 rfl) ?_
        refine lv_iconst (v := 1) hx hb dL_law_1003 (by decide) ?_
        refine lv_iadd hx hb dL_law_1004 ?_
        refine va_sld hx hb hX hbl hbA hC.2.2.1 hin1 dL_law_1005 ?_
        refine z_name hp1 ?_
        refine z_ci (z_rV (As := [.int p1]) (rest := []) ⟨hx, hb, hml, hown, hts⟩ (c_X7_there (l := l) (D := D) (cy := cy) (base := s.heap.size) (st := stx) (K := u.1) (L := u.2.1) (c := u.2.2) (r := r) (o := o) (z := z) mo p1 hk2 hm) (cwV 1 hts gL_law_X7_there rfl rfl rfl (by decide +kernel) ⟨(Nat.le_of_ble_eq_true rfl), (Nat.le_of_ble_eq_true rfl)⟩) hG hC (zC.recv (ci := 7) (fs := _) hK hC (by rw [hk2]; decide) (by rw [hk2]; exact zc_7 cy _ _) rfl) rfl hl.1 rfl (lv_room (Nat.le_of_ble_eq_true rfl)) dL_law_1006 ⟨show 600 + 16 * j + 2 + 0 ≤ 601024 by omega, show 60000 + 100 * j + 12 + 0 ≤ 7293034 by omega⟩) hC (fun H locs hC => ?_)
        refine lv_istore (lv' := [(6, .int bb), (5, .int rr), (0, .ref b), (1, .ref ms), (2, .ref mo), (3, .ref ou), (4, .int (nI (5 * j)))]) hx hb dL_law_1009 hl (by decide) rfl (fun ls hl => ?_)
        refine lv_aload_n hx hb dL_law_1011 rfl (lv_at hl 4 rfl) ?_
        refine z_ci (z_rV (As := []) (rest := []) ⟨hx, hb, hml, hown, hts⟩ (c_X7_thrown (l := l) (D := D) (cy := cy) (base := s.heap.size) (st := stx) (K := u.1) (L := u.2.1) (c := u.2.2) (r := r1) (o := o) (z := z) mo hk2 hthr) (cwV 0 hts gL_law_X7_thrown rfl rfl rfl (by decide +kernel) ⟨(Nat.le_of_ble_eq_true rfl), (Nat.le_of_ble_eq_true rfl)⟩) hG hC (zC.recv (ci := 7) (fs := _) hK hC (by rw [hk2]; decide) (by rw [hk2]; exact zc_7 cy _ _) rfl) rfl hl.1 rfl (lv_room (Nat.le_of_ble_eq_true rfl)) dL_law_1012 ⟨show 600 + 16 * j + 2 + 0 ≤ 601024 by omega, show 60000 + 100 * j + 12 + 0 ≤ 7293034 by omega⟩) hC (fun H locs hC => ?_)
        refine lv_iload hx hb dL_law_1015 (lv_at hl 1 rfl) ?_
        refine lv_icmp_eq (tgt := 1022) hx hb dL_law_1017 (by decide) (fun h9 => ?_) (fun h9 => absurd hth h9)
        refine lv_iload hx hb dL_law_1022 (lv_at hl 1 rfl) ?_
        refine lv_if_ne (tgt := 1046) hx hb dL_law_1024 (by decide) (fun h0 => ?_) (fun h0 => ?_)
        · refine lv_goto (tgt := 2032) hx hb dL_law_1046 (by decide) ?_
          exact NEXT u.1 u.2.1 u.2.2 r1 _ _ ls _ _ hI hC (lv_sub hl [2, 3, 4, 5, 6] rfl) (by omega) (by omega)
        · refine lv_aload_n hx hb dL_law_1027 rfl (lv_at hl 5 rfl) ?_
          refine lv_iconst (v := 0) hx hb dL_law_1028 (by decide) ?_
          refine xg_17 hx hb hK hC hk3 (by unfold vp_in; decide) dL_law_1029 ?_
          refine lv_iload hx hb dL_law_1030 (lv_at hl 0 rfl) ?_
          refine z_bl hx hb (t0 := 1039) (t1 := 1040) dL_law_1032 (by decide) dL_law_1035 dL_law_1036 (by decide) dL_law_1039 rfl ?_
          refine W.lcmp hx hb dL_law_1040 ?_
          refine lv_if_eq (tgt := 1046) hx hb dL_law_1041 (by decide) (fun h9 => ?_) (fun h9 => absurd (z_cmp (hval h0)) h9)
          refine lv_goto (tgt := 2032) hx hb dL_law_1046 (by decide) ?_
          exact NEXT u.1 u.2.1 u.2.2 r1 _ _ ls _ _ hI hC (lv_sub hl [2, 3, 4, 5, 6] rfl) (by omega) (by omega)
      by_cases y12 : y = 12
      · refine z_name y12.symm ?_
        refine lv_tableIn (off := 1010) (tgt := 1049) hx hb dL_law_39 (by decide) (by decide) (by decide) (by decide) ?_
        refine lv_aload_n hx hb dL_law_1049 rfl (lv_at hl 1 rfl) ?_
        refine lv_aload_n hx hb dL_law_1050 rfl (lv_at hl 0 rfl) ?_
        refine lv_iload hx hb dL_law_1051 (lv_at hl 4 rfl) ?_
        refine lv_iconst (v := 1) hx hb dL_law_1053 (by decide) ?_
        refine lv_iadd hx hb dL_law_1054 ?_
        refine va_sld hx hb hX hbl hbA hC.2.2.1 hin1 dL_law_1055 ?_
        refine z_name hp1 ?_
        refine lv_aload_n hx hb dL_law_1056 rfl (lv_at hl 3 rfl) ?_
        obtain ⟨res, hf1, hf2, hS⟩ := hS_12 j K L c r p1 hj hI
        refine z_wcall (z_rW (As := [.ref ms, .int p1, .ref ou]) (rest := []) ⟨hx, hb, hml, hown, hts⟩ (c_L_word (l := l) (D := D) (cy := cy) (base := s.heap.size) (st := stx) (K := K) (L := L) (c := c) (r := r) (o := o) (z := z) ms p1 ou hk1 hk3 hst hf1 hf2) (vx_cwSW 3 hts gL_law_L_word rfl rfl rfl (by decide +kernel) ⟨(Nat.le_of_ble_eq_true rfl), (Nat.le_of_ble_eq_true rfl)⟩) hG hC rfl hl.1 rfl (lv_room (Nat.le_of_ble_eq_true rfl)) dL_law_1057 ⟨show 600 + 16 * j + 2 ≤ 601024 by omega, show 60000 + 100 * j + 12 ≤ 7293034 by omega⟩) hC (fun rr u H locs hpost hC => ?_)
        obtain ⟨bb, r1, hm, hth, hval, hI⟩ := hS rr u hpost
        have hval := fun h : rr = 0 => (congrArg (zl u.2.2 170 ou) sb_cl0).trans (hval h)
        obtain ⟨hk1, hk2, hk3⟩ := hIK _ _ _ _ _ hI
        have hthr : f_X7_thrown u.1 z r1 mo = some (zi r1 0 mo 0) := rfl
        refine lv_istore (lv' := [(5, .int rr), (0, .ref b), (1, .ref ms), (2, .ref mo), (3, .ref ou), (4, .int (nI (5 * j)))]) hx hb dL_law_1060 hl (by decide) rfl (fun ls hl => ?_)
        refine lv_aload_n hx hb dL_law_1062 rfl (lv_at hl 3 rfl) ?_
        refine lv_aload_n hx hb dL_law_1063 rfl (lv_at hl 1 rfl) ?_
        refine lv_iload hx hb dL_law_1064 (lv_at hl 5 rfl) ?_
        refine lv_iconst (v := 1) hx hb dL_law_1066 (by decide) ?_
        refine lv_iadd hx hb dL_law_1067 ?_
        refine va_sld hx hb hX hbl hbA hC.2.2.1 hin1 dL_law_1068 ?_
        refine z_name hp1 ?_
        refine z_ci (z_rV (As := [.int p1]) (rest := []) ⟨hx, hb, hml, hown, hts⟩ (c_X7_word (l := l) (D := D) (cy := cy) (base := s.heap.size) (st := stx) (K := u.1) (L := u.2.1) (c := u.2.2) (r := r) (o := o) (z := z) mo p1 hk2 hm) (cwV 1 hts gL_law_X7_word rfl rfl rfl (by decide +kernel) ⟨(Nat.le_of_ble_eq_true rfl), (Nat.le_of_ble_eq_true rfl)⟩) hG hC (zC.recv (ci := 7) (fs := _) hK hC (by rw [hk2]; decide) (by rw [hk2]; exact zc_7 cy _ _) rfl) rfl hl.1 rfl (lv_room (Nat.le_of_ble_eq_true rfl)) dL_law_1069 ⟨show 600 + 16 * j + 2 + 0 ≤ 601024 by omega, show 60000 + 100 * j + 12 + 0 ≤ 7293034 by omega⟩) hC (fun H locs hC => ?_)
        refine lv_istore (lv' := [(6, .int bb), (5, .int rr), (0, .ref b), (1, .ref ms), (2, .ref mo), (3, .ref ou), (4, .int (nI (5 * j)))]) hx hb dL_law_1072 hl (by decide) rfl (fun ls hl => ?_)
        refine lv_aload_n hx hb dL_law_1074 rfl (lv_at hl 4 rfl) ?_
        refine z_ci (z_rV (As := []) (rest := []) ⟨hx, hb, hml, hown, hts⟩ (c_X7_thrown (l := l) (D := D) (cy := cy) (base := s.heap.size) (st := stx) (K := u.1) (L := u.2.1) (c := u.2.2) (r := r1) (o := o) (z := z) mo hk2 hthr) (cwV 0 hts gL_law_X7_thrown rfl rfl rfl (by decide +kernel) ⟨(Nat.le_of_ble_eq_true rfl), (Nat.le_of_ble_eq_true rfl)⟩) hG hC (zC.recv (ci := 7) (fs := _) hK hC (by rw [hk2]; decide) (by rw [hk2]; exact zc_7 cy _ _) rfl) rfl hl.1 rfl (lv_room (Nat.le_of_ble_eq_true rfl)) dL_law_1075 ⟨show 600 + 16 * j + 2 + 0 ≤ 601024 by omega, show 60000 + 100 * j + 12 + 0 ≤ 7293034 by omega⟩) hC (fun H locs hC => ?_)
        refine lv_iload hx hb dL_law_1078 (lv_at hl 1 rfl) ?_
        refine lv_icmp_eq (tgt := 1085) hx hb dL_law_1080 (by decide) (fun h9 => ?_) (fun h9 => absurd hth h9)
        refine lv_iload hx hb dL_law_1085 (lv_at hl 1 rfl) ?_
        refine lv_if_ne (tgt := 1109) hx hb dL_law_1087 (by decide) (fun h0 => ?_) (fun h0 => ?_)
        · refine lv_goto (tgt := 2032) hx hb dL_law_1109 (by decide) ?_
          exact NEXT u.1 u.2.1 u.2.2 r1 _ _ ls _ _ hI hC (lv_sub hl [2, 3, 4, 5, 6] rfl) (by omega) (by omega)
        · refine lv_aload_n hx hb dL_law_1090 rfl (lv_at hl 5 rfl) ?_
          refine lv_iconst (v := 0) hx hb dL_law_1091 (by decide) ?_
          refine xg_17 hx hb hK hC hk3 (by unfold vp_in; decide) dL_law_1092 ?_
          refine lv_iload hx hb dL_law_1093 (lv_at hl 0 rfl) ?_
          refine z_bl hx hb (t0 := 1102) (t1 := 1103) dL_law_1095 (by decide) dL_law_1098 dL_law_1099 (by decide) dL_law_1102 rfl ?_
          refine W.lcmp hx hb dL_law_1103 ?_
          refine lv_if_eq (tgt := 1109) hx hb dL_law_1104 (by decide) (fun h9 => ?_) (fun h9 => absurd (z_cmp (hval h0)) h9)
          refine lv_goto (tgt := 2032) hx hb dL_law_1109 (by decide) ?_
          exact NEXT u.1 u.2.1 u.2.2 r1 _ _ ls _ _ hI hC (lv_sub hl [2, 3, 4, 5, 6] rfl) (by omega) (by omega)
      by_cases y13 : y = 13
      · refine z_name y13.symm ?_
        refine lv_tableIn (off := 1073) (tgt := 1112) hx hb dL_law_39 (by decide) (by decide) (by decide) (by decide) ?_
        refine lv_aload_n hx hb dL_law_1112 rfl (lv_at hl 1 rfl) ?_
        refine lv_aload_n hx hb dL_law_1113 rfl (lv_at hl 3 rfl) ?_
        obtain ⟨res, hf1, hf2, hS⟩ := hS_13 j K L c r hj hI
        refine z_wcall (z_rW (As := [.ref ms, .ref ou]) (rest := []) ⟨hx, hb, hml, hown, hts⟩ (c_L_bell (l := l) (D := D) (cy := cy) (base := s.heap.size) (st := stx) (K := K) (L := L) (c := c) (r := r) (o := o) (z := z) ms ou hk1 hk3 hst hf1 hf2) (vx_cwSW 2 hts gL_law_L_bell rfl rfl rfl (by decide +kernel) ⟨(Nat.le_of_ble_eq_true rfl), (Nat.le_of_ble_eq_true rfl)⟩) hG hC rfl hl.1 rfl (lv_room (Nat.le_of_ble_eq_true rfl)) dL_law_1114 ⟨show 600 + 16 * j + 1 ≤ 601024 by omega, show 60000 + 100 * j + 6 ≤ 7293034 by omega⟩) hC (fun rr u H locs hpost hC => ?_)
        obtain ⟨bb, r1, hm, hth, hval, hI⟩ := hS rr u hpost
        have hval := fun h : rr = 0 => (congrArg (zl u.2.2 170 ou) sb_cl0).trans (hval h)
        obtain ⟨hk1, hk2, hk3⟩ := hIK _ _ _ _ _ hI
        have hthr : f_X7_thrown u.1 z r1 mo = some (zi r1 0 mo 0) := rfl
        refine lv_istore (lv' := [(5, .int rr), (0, .ref b), (1, .ref ms), (2, .ref mo), (3, .ref ou), (4, .int (nI (5 * j)))]) hx hb dL_law_1117 hl (by decide) rfl (fun ls hl => ?_)
        refine lv_aload_n hx hb dL_law_1119 rfl (lv_at hl 3 rfl) ?_
        refine z_ci (z_rV (As := []) (rest := []) ⟨hx, hb, hml, hown, hts⟩ (c_X7_bell (l := l) (D := D) (cy := cy) (base := s.heap.size) (st := stx) (K := u.1) (L := u.2.1) (c := u.2.2) (r := r) (o := o) (z := z) mo hk2 hm) (cwV 0 hts gL_law_X7_bell rfl rfl rfl (by decide +kernel) ⟨(Nat.le_of_ble_eq_true rfl), (Nat.le_of_ble_eq_true rfl)⟩) hG hC (zC.recv (ci := 7) (fs := _) hK hC (by rw [hk2]; decide) (by rw [hk2]; exact zc_7 cy _ _) rfl) rfl hl.1 rfl (lv_room (Nat.le_of_ble_eq_true rfl)) dL_law_1120 ⟨show 600 + 16 * j + 1 + 0 ≤ 601024 by omega, show 60000 + 100 * j + 6 + 0 ≤ 7293034 by omega⟩) hC (fun H locs hC => ?_)
        refine lv_istore (lv' := [(6, .int bb), (5, .int rr), (0, .ref b), (1, .ref ms), (2, .ref mo), (3, .ref ou), (4, .int (nI (5 * j)))]) hx hb dL_law_1123 hl (by decide) rfl (fun ls hl => ?_)
        refine lv_aload_n hx hb dL_law_1125 rfl (lv_at hl 4 rfl) ?_
        refine z_ci (z_rV (As := []) (rest := []) ⟨hx, hb, hml, hown, hts⟩ (c_X7_thrown (l := l) (D := D) (cy := cy) (base := s.heap.size) (st := stx) (K := u.1) (L := u.2.1) (c := u.2.2) (r := r1) (o := o) (z := z) mo hk2 hthr) (cwV 0 hts gL_law_X7_thrown rfl rfl rfl (by decide +kernel) ⟨(Nat.le_of_ble_eq_true rfl), (Nat.le_of_ble_eq_true rfl)⟩) hG hC (zC.recv (ci := 7) (fs := _) hK hC (by rw [hk2]; decide) (by rw [hk2]; exact zc_7 cy _ _) rfl) rfl hl.1 rfl (lv_room (Nat.le_of_ble_eq_true rfl)) dL_law_1126 ⟨show 600 + 16 * j + 1 + 0 ≤ 601024 by omega, show 60000 + 100 * j + 6 + 0 ≤ 7293034 by omega⟩) hC (fun H locs hC => ?_)
        refine lv_iload hx hb dL_law_1129 (lv_at hl 1 rfl) ?_
        refine lv_icmp_eq (tgt := 1136) hx hb dL_law_1131 (by decide) (fun h9 => ?_) (fun h9 => absurd hth h9)
        refine lv_iload hx hb dL_law_1136 (lv_at hl 1 rfl) ?_
        refine lv_if_ne (tgt := 1153) hx hb dL_law_1138 (by decide) (fun h0 => ?_) (fun h0 => ?_)
        · refine lv_goto (tgt := 2032) hx hb dL_law_1153 (by decide) ?_
          exact NEXT u.1 u.2.1 u.2.2 r1 _ _ ls _ _ hI hC (lv_sub hl [2, 3, 4, 5, 6] rfl) (by omega) (by omega)
        · refine lv_aload_n hx hb dL_law_1141 rfl (lv_at hl 5 rfl) ?_
          refine lv_iconst (v := 0) hx hb dL_law_1142 (by decide) ?_
          refine xg_17 hx hb hK hC hk3 (by unfold vp_in; decide) dL_law_1143 ?_
          refine lv_iload hx hb dL_law_1144 (lv_at hl 0 rfl) ?_
          refine lv_i2l (v := (Int32.toInt64 bb)) hx hb dL_law_1146 rfl ?_
          refine W.lcmp hx hb dL_law_1147 ?_
          refine lv_if_eq (tgt := 1153) hx hb dL_law_1148 (by decide) (fun h9 => ?_) (fun h9 => absurd (z_cmp (hval h0)) h9)
          refine lv_goto (tgt := 2032) hx hb dL_law_1153 (by decide) ?_
          exact NEXT u.1 u.2.1 u.2.2 r1 _ _ ls _ _ hI hC (lv_sub hl [2, 3, 4, 5, 6] rfl) (by omega) (by omega)
      by_cases y14 : y = 14
      · refine z_name y14.symm ?_
        refine lv_tableIn (off := 1117) (tgt := 1156) hx hb dL_law_39 (by decide) (by decide) (by decide) (by decide) ?_
        refine lv_aload_n hx hb dL_law_1156 rfl (lv_at hl 1 rfl) ?_
        refine lv_aload_n hx hb dL_law_1157 rfl (lv_at hl 0 rfl) ?_
        refine lv_iload hx hb dL_law_1158 (lv_at hl 4 rfl) ?_
        refine lv_iconst (v := 1) hx hb dL_law_1160 (by decide) ?_
        refine lv_iadd hx hb dL_law_1161 ?_
        refine va_sld hx hb hX hbl hbA hC.2.2.1 hin1 dL_law_1162 ?_
        refine z_name hp1 ?_
        refine lv_aload_n hx hb dL_law_1163 rfl (lv_at hl 0 rfl) ?_
        refine lv_iload hx hb dL_law_1164 (lv_at hl 4 rfl) ?_
        refine lv_iconst (v := 2) hx hb dL_law_1166 (by decide) ?_
        refine lv_iadd hx hb dL_law_1167 ?_
        refine va_sld hx hb hX hbl hbA hC.2.2.1 hin2 dL_law_1168 ?_
        refine z_name hp2 ?_
        refine lv_aload_n hx hb dL_law_1169 rfl (lv_at hl 0 rfl) ?_
        refine lv_iload hx hb dL_law_1170 (lv_at hl 4 rfl) ?_
        refine lv_iconst (v := 3) hx hb dL_law_1172 (by decide) ?_
        refine lv_iadd hx hb dL_law_1173 ?_
        refine va_sld hx hb hX hbl hbA hC.2.2.1 hin3 dL_law_1174 ?_
        refine z_name hp3 ?_
        refine lv_aload_n hx hb dL_law_1175 rfl (lv_at hl 3 rfl) ?_
        obtain ⟨res, hf1, hf2, hS⟩ := hS_14 j K L c r p1 p2 p3 hj hI
        refine z_wcall (z_rW (As := [.ref ms, .int p1, .int p2, .int p3, .ref ou]) (rest := []) ⟨hx, hb, hml, hown, hts⟩ (c_L_why (l := l) (D := D) (cy := cy) (base := s.heap.size) (st := stx) (K := K) (L := L) (c := c) (r := r) (o := o) (z := z) ms p1 p2 p3 ou hk1 hk3 hst hf1 hf2) (vx_cwSW 5 hts gL_law_L_why rfl rfl rfl (by decide +kernel) ⟨(Nat.le_of_ble_eq_true rfl), (Nat.le_of_ble_eq_true rfl)⟩) hG hC rfl hl.1 rfl (lv_room (Nat.le_of_ble_eq_true rfl)) dL_law_1176 ⟨show 600 + 16 * j + 1 ≤ 601024 by omega, show 60000 + 100 * j + 6 ≤ 7293034 by omega⟩) hC (fun rr u H locs hpost hC => ?_)
        obtain ⟨bb, r1, hm, hth, hval, hI⟩ := hS rr u hpost
        have hval := fun h : rr = 0 => (congrArg (zl u.2.2 170 ou) sb_cl0).trans (hval h)
        obtain ⟨hk1, hk2, hk3⟩ := hIK _ _ _ _ _ hI
        have hthr : f_X7_thrown u.1 z r1 mo = some (zi r1 0 mo 0) := rfl
        refine lv_istore (lv' := [(5, .int rr), (0, .ref b), (1, .ref ms), (2, .ref mo), (3, .ref ou), (4, .int (nI (5 * j)))]) hx hb dL_law_1179 hl (by decide) rfl (fun ls hl => ?_)
        refine lv_aload_n hx hb dL_law_1181 rfl (lv_at hl 3 rfl) ?_
        refine lv_aload_n hx hb dL_law_1182 rfl (lv_at hl 1 rfl) ?_
        refine lv_iload hx hb dL_law_1183 (lv_at hl 5 rfl) ?_
        refine lv_iconst (v := 1) hx hb dL_law_1185 (by decide) ?_
        refine lv_iadd hx hb dL_law_1186 ?_
        refine va_sld hx hb hX hbl hbA hC.2.2.1 hin1 dL_law_1187 ?_
        refine z_name hp1 ?_
        refine lv_aload_n hx hb dL_law_1188 rfl (lv_at hl 1 rfl) ?_
        refine lv_iload hx hb dL_law_1189 (lv_at hl 5 rfl) ?_
        refine lv_iconst (v := 2) hx hb dL_law_1191 (by decide) ?_
        refine lv_iadd hx hb dL_law_1192 ?_
        refine va_sld hx hb hX hbl hbA hC.2.2.1 hin2 dL_law_1193 ?_
        refine z_name hp2 ?_
        refine lv_aload_n hx hb dL_law_1194 rfl (lv_at hl 1 rfl) ?_
        refine lv_iload hx hb dL_law_1195 (lv_at hl 5 rfl) ?_
        refine lv_iconst (v := 3) hx hb dL_law_1197 (by decide) ?_
        refine lv_iadd hx hb dL_law_1198 ?_
        refine va_sld hx hb hX hbl hbA hC.2.2.1 hin3 dL_law_1199 ?_
        refine z_name hp3 ?_
        refine z_ci (z_rV (As := [.int p1, .int p2, .int p3]) (rest := []) ⟨hx, hb, hml, hown, hts⟩ (c_X7_why (l := l) (D := D) (cy := cy) (base := s.heap.size) (st := stx) (K := u.1) (L := u.2.1) (c := u.2.2) (r := r) (o := o) (z := z) mo p1 p2 p3 hk2 hm) (cwV 3 hts gL_law_X7_why rfl rfl rfl (by decide +kernel) ⟨(Nat.le_of_ble_eq_true rfl), (Nat.le_of_ble_eq_true rfl)⟩) hG hC (zC.recv (ci := 7) (fs := _) hK hC (by rw [hk2]; decide) (by rw [hk2]; exact zc_7 cy _ _) rfl) rfl hl.1 rfl (lv_room (Nat.le_of_ble_eq_true rfl)) dL_law_1200 ⟨show 600 + 16 * j + 1 + 0 ≤ 601024 by omega, show 60000 + 100 * j + 6 + 0 ≤ 7293034 by omega⟩) hC (fun H locs hC => ?_)
        refine lv_istore (lv' := [(6, .int bb), (5, .int rr), (0, .ref b), (1, .ref ms), (2, .ref mo), (3, .ref ou), (4, .int (nI (5 * j)))]) hx hb dL_law_1203 hl (by decide) rfl (fun ls hl => ?_)
        refine lv_aload_n hx hb dL_law_1205 rfl (lv_at hl 4 rfl) ?_
        refine z_ci (z_rV (As := []) (rest := []) ⟨hx, hb, hml, hown, hts⟩ (c_X7_thrown (l := l) (D := D) (cy := cy) (base := s.heap.size) (st := stx) (K := u.1) (L := u.2.1) (c := u.2.2) (r := r1) (o := o) (z := z) mo hk2 hthr) (cwV 0 hts gL_law_X7_thrown rfl rfl rfl (by decide +kernel) ⟨(Nat.le_of_ble_eq_true rfl), (Nat.le_of_ble_eq_true rfl)⟩) hG hC (zC.recv (ci := 7) (fs := _) hK hC (by rw [hk2]; decide) (by rw [hk2]; exact zc_7 cy _ _) rfl) rfl hl.1 rfl (lv_room (Nat.le_of_ble_eq_true rfl)) dL_law_1206 ⟨show 600 + 16 * j + 1 + 0 ≤ 601024 by omega, show 60000 + 100 * j + 6 + 0 ≤ 7293034 by omega⟩) hC (fun H locs hC => ?_)
        refine lv_iload hx hb dL_law_1209 (lv_at hl 1 rfl) ?_
        refine lv_icmp_eq (tgt := 1216) hx hb dL_law_1211 (by decide) (fun h9 => ?_) (fun h9 => absurd hth h9)
        refine lv_iload hx hb dL_law_1216 (lv_at hl 1 rfl) ?_
        refine lv_if_ne (tgt := 1233) hx hb dL_law_1218 (by decide) (fun h0 => ?_) (fun h0 => ?_)
        · refine lv_goto (tgt := 2032) hx hb dL_law_1233 (by decide) ?_
          exact NEXT u.1 u.2.1 u.2.2 r1 _ _ ls _ _ hI hC (lv_sub hl [2, 3, 4, 5, 6] rfl) (by omega) (by omega)
        · refine lv_aload_n hx hb dL_law_1221 rfl (lv_at hl 5 rfl) ?_
          refine lv_iconst (v := 0) hx hb dL_law_1222 (by decide) ?_
          refine xg_17 hx hb hK hC hk3 (by unfold vp_in; decide) dL_law_1223 ?_
          refine lv_iload hx hb dL_law_1224 (lv_at hl 0 rfl) ?_
          refine lv_i2l (v := (Int32.toInt64 bb)) hx hb dL_law_1226 rfl ?_
          refine W.lcmp hx hb dL_law_1227 ?_
          refine lv_if_eq (tgt := 1233) hx hb dL_law_1228 (by decide) (fun h9 => ?_) (fun h9 => absurd (z_cmp (hval h0)) h9)
          refine lv_goto (tgt := 2032) hx hb dL_law_1233 (by decide) ?_
          exact NEXT u.1 u.2.1 u.2.2 r1 _ _ ls _ _ hI hC (lv_sub hl [2, 3, 4, 5, 6] rfl) (by omega) (by omega)
      by_cases y15 : y = 15
      · refine z_name y15.symm ?_
        refine lv_tableIn (off := 1197) (tgt := 1236) hx hb dL_law_39 (by decide) (by decide) (by decide) (by decide) ?_
        refine lv_aload_n hx hb dL_law_1236 rfl (lv_at hl 1 rfl) ?_
        refine lv_aload_n hx hb dL_law_1237 rfl (lv_at hl 0 rfl) ?_
        refine lv_iload hx hb dL_law_1238 (lv_at hl 4 rfl) ?_
        refine lv_iconst (v := 1) hx hb dL_law_1240 (by decide) ?_
        refine lv_iadd hx hb dL_law_1241 ?_
        refine va_sld hx hb hX hbl hbA hC.2.2.1 hin1 dL_law_1242 ?_
        refine z_name hp1 ?_
        refine lv_aload_n hx hb dL_law_1243 rfl (lv_at hl 3 rfl) ?_
        obtain ⟨res, hf1, hf2, hS⟩ := hS_15 j K L c r p1 hj hI
        refine z_wcall (z_rW (As := [.ref ms, .int p1, .ref ou]) (rest := []) ⟨hx, hb, hml, hown, hts⟩ (c_L_good (l := l) (D := D) (cy := cy) (base := s.heap.size) (st := stx) (K := K) (L := L) (c := c) (r := r) (o := o) (z := z) ms p1 ou hk1 hk3 hst hf1 hf2) (vx_cwSW 3 hts gL_law_L_good rfl rfl rfl (by decide +kernel) ⟨(Nat.le_of_ble_eq_true rfl), (Nat.le_of_ble_eq_true rfl)⟩) hG hC rfl hl.1 rfl (lv_room (Nat.le_of_ble_eq_true rfl)) dL_law_1244 ⟨show 600 + 16 * j + 1 ≤ 601024 by omega, show 60000 + 100 * j + 6 ≤ 7293034 by omega⟩) hC (fun rr u H locs hpost hC => ?_)
        obtain ⟨bb, r1, hm, hth, hval, hI⟩ := hS rr u hpost
        have hval := fun h : rr = 0 => (congrArg (zl u.2.2 170 ou) sb_cl0).trans (hval h)
        obtain ⟨hk1, hk2, hk3⟩ := hIK _ _ _ _ _ hI
        have hthr : f_X7_thrown u.1 z r1 mo = some (zi r1 0 mo 0) := rfl
        refine lv_istore (lv' := [(5, .int rr), (0, .ref b), (1, .ref ms), (2, .ref mo), (3, .ref ou), (4, .int (nI (5 * j)))]) hx hb dL_law_1247 hl (by decide) rfl (fun ls hl => ?_)
        refine lv_aload_n hx hb dL_law_1249 rfl (lv_at hl 3 rfl) ?_
        refine lv_aload_n hx hb dL_law_1250 rfl (lv_at hl 1 rfl) ?_
        refine lv_iload hx hb dL_law_1251 (lv_at hl 5 rfl) ?_
        refine lv_iconst (v := 1) hx hb dL_law_1253 (by decide) ?_
        refine lv_iadd hx hb dL_law_1254 ?_
        refine va_sld hx hb hX hbl hbA hC.2.2.1 hin1 dL_law_1255 ?_
        refine z_name hp1 ?_
        refine z_ci (z_rV (As := [.int p1]) (rest := []) ⟨hx, hb, hml, hown, hts⟩ (c_X7_good (l := l) (D := D) (cy := cy) (base := s.heap.size) (st := stx) (K := u.1) (L := u.2.1) (c := u.2.2) (r := r) (o := o) (z := z) mo p1 hk2 hm) (cwV 1 hts gL_law_X7_good rfl rfl rfl (by decide +kernel) ⟨(Nat.le_of_ble_eq_true rfl), (Nat.le_of_ble_eq_true rfl)⟩) hG hC (zC.recv (ci := 7) (fs := _) hK hC (by rw [hk2]; decide) (by rw [hk2]; exact zc_7 cy _ _) rfl) rfl hl.1 rfl (lv_room (Nat.le_of_ble_eq_true rfl)) dL_law_1256 ⟨show 600 + 16 * j + 1 + 0 ≤ 601024 by omega, show 60000 + 100 * j + 6 + 0 ≤ 7293034 by omega⟩) hC (fun H locs hC => ?_)
        refine lv_istore (lv' := [(6, .int bb), (5, .int rr), (0, .ref b), (1, .ref ms), (2, .ref mo), (3, .ref ou), (4, .int (nI (5 * j)))]) hx hb dL_law_1259 hl (by decide) rfl (fun ls hl => ?_)
        refine lv_aload_n hx hb dL_law_1261 rfl (lv_at hl 4 rfl) ?_
        refine z_ci (z_rV (As := []) (rest := []) ⟨hx, hb, hml, hown, hts⟩ (c_X7_thrown (l := l) (D := D) (cy := cy) (base := s.heap.size) (st := stx) (K := u.1) (L := u.2.1) (c := u.2.2) (r := r1) (o := o) (z := z) mo hk2 hthr) (cwV 0 hts gL_law_X7_thrown rfl rfl rfl (by decide +kernel) ⟨(Nat.le_of_ble_eq_true rfl), (Nat.le_of_ble_eq_true rfl)⟩) hG hC (zC.recv (ci := 7) (fs := _) hK hC (by rw [hk2]; decide) (by rw [hk2]; exact zc_7 cy _ _) rfl) rfl hl.1 rfl (lv_room (Nat.le_of_ble_eq_true rfl)) dL_law_1262 ⟨show 600 + 16 * j + 1 + 0 ≤ 601024 by omega, show 60000 + 100 * j + 6 + 0 ≤ 7293034 by omega⟩) hC (fun H locs hC => ?_)
        refine lv_iload hx hb dL_law_1265 (lv_at hl 1 rfl) ?_
        refine lv_icmp_eq (tgt := 1272) hx hb dL_law_1267 (by decide) (fun h9 => ?_) (fun h9 => absurd hth h9)
        refine lv_iload hx hb dL_law_1272 (lv_at hl 1 rfl) ?_
        refine lv_if_ne (tgt := 1289) hx hb dL_law_1274 (by decide) (fun h0 => ?_) (fun h0 => ?_)
        · refine lv_goto (tgt := 2032) hx hb dL_law_1289 (by decide) ?_
          exact NEXT u.1 u.2.1 u.2.2 r1 _ _ ls _ _ hI hC (lv_sub hl [2, 3, 4, 5, 6] rfl) (by omega) (by omega)
        · refine lv_aload_n hx hb dL_law_1277 rfl (lv_at hl 5 rfl) ?_
          refine lv_iconst (v := 0) hx hb dL_law_1278 (by decide) ?_
          refine xg_17 hx hb hK hC hk3 (by unfold vp_in; decide) dL_law_1279 ?_
          refine lv_iload hx hb dL_law_1280 (lv_at hl 0 rfl) ?_
          refine lv_i2l (v := (Int32.toInt64 bb)) hx hb dL_law_1282 rfl ?_
          refine W.lcmp hx hb dL_law_1283 ?_
          refine lv_if_eq (tgt := 1289) hx hb dL_law_1284 (by decide) (fun h9 => ?_) (fun h9 => absurd (z_cmp (hval h0)) h9)
          refine lv_goto (tgt := 2032) hx hb dL_law_1289 (by decide) ?_
          exact NEXT u.1 u.2.1 u.2.2 r1 _ _ ls _ _ hI hC (lv_sub hl [2, 3, 4, 5, 6] rfl) (by omega) (by omega)
      by_cases y16 : y = 16
      · refine z_name y16.symm ?_
        refine lv_tableIn (off := 1253) (tgt := 1292) hx hb dL_law_39 (by decide) (by decide) (by decide) (by decide) ?_
        refine lv_aload_n hx hb dL_law_1292 rfl (lv_at hl 1 rfl) ?_
        refine lv_aload_n hx hb dL_law_1293 rfl (lv_at hl 3 rfl) ?_
        obtain ⟨res, hf1, hf2, hS⟩ := hS_16 j K L c r hj hI
        refine z_wcall (z_rW (As := [.ref ms, .ref ou]) (rest := []) ⟨hx, hb, hml, hown, hts⟩ (c_L_next (l := l) (D := D) (cy := cy) (base := s.heap.size) (st := stx) (K := K) (L := L) (c := c) (r := r) (o := o) (z := z) ms ou hk1 hk3 hst hf1 hf2) (vx_cwSW 2 hts gL_law_L_next rfl rfl rfl (by decide +kernel) ⟨(Nat.le_of_ble_eq_true rfl), (Nat.le_of_ble_eq_true rfl)⟩) hG hC rfl hl.1 rfl (lv_room (Nat.le_of_ble_eq_true rfl)) dL_law_1294 ⟨show 600 + 16 * j + 1 ≤ 601024 by omega, show 60000 + 100 * j + 6 ≤ 7293034 by omega⟩) hC (fun rr u H locs hpost hC => ?_)
        obtain ⟨bb, r1, hm, hth, hval, hI⟩ := hS rr u hpost
        have hval := fun h : rr = 0 => (congrArg (zl u.2.2 170 ou) sb_cl0).trans (hval h)
        obtain ⟨hk1, hk2, hk3⟩ := hIK _ _ _ _ _ hI
        have hthr : f_X7_thrown u.1 z r1 mo = some (zi r1 0 mo 0) := rfl
        refine lv_istore (lv' := [(5, .int rr), (0, .ref b), (1, .ref ms), (2, .ref mo), (3, .ref ou), (4, .int (nI (5 * j)))]) hx hb dL_law_1297 hl (by decide) rfl (fun ls hl => ?_)
        refine lv_aload_n hx hb dL_law_1299 rfl (lv_at hl 3 rfl) ?_
        refine z_ci (z_rV (As := []) (rest := []) ⟨hx, hb, hml, hown, hts⟩ (c_X7_next (l := l) (D := D) (cy := cy) (base := s.heap.size) (st := stx) (K := u.1) (L := u.2.1) (c := u.2.2) (r := r) (o := o) (z := z) mo hk2 hm) (cwV 0 hts gL_law_X7_next rfl rfl rfl (by decide +kernel) ⟨(Nat.le_of_ble_eq_true rfl), (Nat.le_of_ble_eq_true rfl)⟩) hG hC (zC.recv (ci := 7) (fs := _) hK hC (by rw [hk2]; decide) (by rw [hk2]; exact zc_7 cy _ _) rfl) rfl hl.1 rfl (lv_room (Nat.le_of_ble_eq_true rfl)) dL_law_1300 ⟨show 600 + 16 * j + 1 + 0 ≤ 601024 by omega, show 60000 + 100 * j + 6 + 0 ≤ 7293034 by omega⟩) hC (fun H locs hC => ?_)
        refine lv_istore (lv' := [(6, .int bb), (5, .int rr), (0, .ref b), (1, .ref ms), (2, .ref mo), (3, .ref ou), (4, .int (nI (5 * j)))]) hx hb dL_law_1303 hl (by decide) rfl (fun ls hl => ?_)
        refine lv_aload_n hx hb dL_law_1305 rfl (lv_at hl 4 rfl) ?_
        refine z_ci (z_rV (As := []) (rest := []) ⟨hx, hb, hml, hown, hts⟩ (c_X7_thrown (l := l) (D := D) (cy := cy) (base := s.heap.size) (st := stx) (K := u.1) (L := u.2.1) (c := u.2.2) (r := r1) (o := o) (z := z) mo hk2 hthr) (cwV 0 hts gL_law_X7_thrown rfl rfl rfl (by decide +kernel) ⟨(Nat.le_of_ble_eq_true rfl), (Nat.le_of_ble_eq_true rfl)⟩) hG hC (zC.recv (ci := 7) (fs := _) hK hC (by rw [hk2]; decide) (by rw [hk2]; exact zc_7 cy _ _) rfl) rfl hl.1 rfl (lv_room (Nat.le_of_ble_eq_true rfl)) dL_law_1306 ⟨show 600 + 16 * j + 1 + 0 ≤ 601024 by omega, show 60000 + 100 * j + 6 + 0 ≤ 7293034 by omega⟩) hC (fun H locs hC => ?_)
        refine lv_iload hx hb dL_law_1309 (lv_at hl 1 rfl) ?_
        refine lv_icmp_eq (tgt := 1316) hx hb dL_law_1311 (by decide) (fun h9 => ?_) (fun h9 => absurd hth h9)
        refine lv_iload hx hb dL_law_1316 (lv_at hl 1 rfl) ?_
        refine lv_if_ne (tgt := 1333) hx hb dL_law_1318 (by decide) (fun h0 => ?_) (fun h0 => ?_)
        · refine lv_goto (tgt := 2032) hx hb dL_law_1333 (by decide) ?_
          exact NEXT u.1 u.2.1 u.2.2 r1 _ _ ls _ _ hI hC (lv_sub hl [2, 3, 4, 5, 6] rfl) (by omega) (by omega)
        · refine lv_aload_n hx hb dL_law_1321 rfl (lv_at hl 5 rfl) ?_
          refine lv_iconst (v := 0) hx hb dL_law_1322 (by decide) ?_
          refine xg_17 hx hb hK hC hk3 (by unfold vp_in; decide) dL_law_1323 ?_
          refine lv_iload hx hb dL_law_1324 (lv_at hl 0 rfl) ?_
          refine lv_i2l (v := (Int32.toInt64 bb)) hx hb dL_law_1326 rfl ?_
          refine W.lcmp hx hb dL_law_1327 ?_
          refine lv_if_eq (tgt := 1333) hx hb dL_law_1328 (by decide) (fun h9 => ?_) (fun h9 => absurd (z_cmp (hval h0)) h9)
          refine lv_goto (tgt := 2032) hx hb dL_law_1333 (by decide) ?_
          exact NEXT u.1 u.2.1 u.2.2 r1 _ _ ls _ _ hI hC (lv_sub hl [2, 3, 4, 5, 6] rfl) (by omega) (by omega)
      by_cases y17 : y = 17
      · refine z_name y17.symm ?_
        refine lv_tableIn (off := 1297) (tgt := 1336) hx hb dL_law_39 (by decide) (by decide) (by decide) (by decide) ?_
        refine lv_aload_n hx hb dL_law_1336 rfl (lv_at hl 1 rfl) ?_
        refine lv_aload_n hx hb dL_law_1337 rfl (lv_at hl 3 rfl) ?_
        obtain ⟨res, hf1, hf2, hS⟩ := hS_17 j K L c r hj hI
        refine z_wcall (z_rW (As := [.ref ms, .ref ou]) (rest := []) ⟨hx, hb, hml, hown, hts⟩ (c_L_full (l := l) (D := D) (cy := cy) (base := s.heap.size) (st := stx) (K := K) (L := L) (c := c) (r := r) (o := o) (z := z) ms ou hk1 hk3 hst hf1 hf2) (vx_cwSW 2 hts gL_law_L_full rfl rfl rfl (by decide +kernel) ⟨(Nat.le_of_ble_eq_true rfl), (Nat.le_of_ble_eq_true rfl)⟩) hG hC rfl hl.1 rfl (lv_room (Nat.le_of_ble_eq_true rfl)) dL_law_1338 ⟨show 600 + 16 * j + 1 ≤ 601024 by omega, show 60000 + 100 * j + 6 ≤ 7293034 by omega⟩) hC (fun rr u H locs hpost hC => ?_)
        obtain ⟨bb, r1, hm, hth, hval, hI⟩ := hS rr u hpost
        have hval := fun h : rr = 0 => (congrArg (zl u.2.2 170 ou) sb_cl0).trans (hval h)
        obtain ⟨hk1, hk2, hk3⟩ := hIK _ _ _ _ _ hI
        have hthr : f_X7_thrown u.1 z r1 mo = some (zi r1 0 mo 0) := rfl
        refine lv_istore (lv' := [(5, .int rr), (0, .ref b), (1, .ref ms), (2, .ref mo), (3, .ref ou), (4, .int (nI (5 * j)))]) hx hb dL_law_1341 hl (by decide) rfl (fun ls hl => ?_)
        refine lv_aload_n hx hb dL_law_1343 rfl (lv_at hl 3 rfl) ?_
        refine z_ci (z_rV (As := []) (rest := []) ⟨hx, hb, hml, hown, hts⟩ (c_X7_full (l := l) (D := D) (cy := cy) (base := s.heap.size) (st := stx) (K := u.1) (L := u.2.1) (c := u.2.2) (r := r) (o := o) (z := z) mo hk2 hm) (cwV 0 hts gL_law_X7_full rfl rfl rfl (by decide +kernel) ⟨(Nat.le_of_ble_eq_true rfl), (Nat.le_of_ble_eq_true rfl)⟩) hG hC (zC.recv (ci := 7) (fs := _) hK hC (by rw [hk2]; decide) (by rw [hk2]; exact zc_7 cy _ _) rfl) rfl hl.1 rfl (lv_room (Nat.le_of_ble_eq_true rfl)) dL_law_1344 ⟨show 600 + 16 * j + 1 + 0 ≤ 601024 by omega, show 60000 + 100 * j + 6 + 0 ≤ 7293034 by omega⟩) hC (fun H locs hC => ?_)
        refine lv_istore (lv' := [(6, .int bb), (5, .int rr), (0, .ref b), (1, .ref ms), (2, .ref mo), (3, .ref ou), (4, .int (nI (5 * j)))]) hx hb dL_law_1347 hl (by decide) rfl (fun ls hl => ?_)
        refine lv_aload_n hx hb dL_law_1349 rfl (lv_at hl 4 rfl) ?_
        refine z_ci (z_rV (As := []) (rest := []) ⟨hx, hb, hml, hown, hts⟩ (c_X7_thrown (l := l) (D := D) (cy := cy) (base := s.heap.size) (st := stx) (K := u.1) (L := u.2.1) (c := u.2.2) (r := r1) (o := o) (z := z) mo hk2 hthr) (cwV 0 hts gL_law_X7_thrown rfl rfl rfl (by decide +kernel) ⟨(Nat.le_of_ble_eq_true rfl), (Nat.le_of_ble_eq_true rfl)⟩) hG hC (zC.recv (ci := 7) (fs := _) hK hC (by rw [hk2]; decide) (by rw [hk2]; exact zc_7 cy _ _) rfl) rfl hl.1 rfl (lv_room (Nat.le_of_ble_eq_true rfl)) dL_law_1350 ⟨show 600 + 16 * j + 1 + 0 ≤ 601024 by omega, show 60000 + 100 * j + 6 + 0 ≤ 7293034 by omega⟩) hC (fun H locs hC => ?_)
        refine lv_iload hx hb dL_law_1353 (lv_at hl 1 rfl) ?_
        refine lv_icmp_eq (tgt := 1360) hx hb dL_law_1355 (by decide) (fun h9 => ?_) (fun h9 => absurd hth h9)
        refine lv_iload hx hb dL_law_1360 (lv_at hl 1 rfl) ?_
        refine lv_if_ne (tgt := 1384) hx hb dL_law_1362 (by decide) (fun h0 => ?_) (fun h0 => ?_)
        · refine lv_goto (tgt := 2032) hx hb dL_law_1384 (by decide) ?_
          exact NEXT u.1 u.2.1 u.2.2 r1 _ _ ls _ _ hI hC (lv_sub hl [2, 3, 4, 5, 6] rfl) (by omega) (by omega)
        · refine lv_aload_n hx hb dL_law_1365 rfl (lv_at hl 5 rfl) ?_
          refine lv_iconst (v := 0) hx hb dL_law_1366 (by decide) ?_
          refine xg_17 hx hb hK hC hk3 (by unfold vp_in; decide) dL_law_1367 ?_
          refine lv_iload hx hb dL_law_1368 (lv_at hl 0 rfl) ?_
          refine z_bl hx hb (t0 := 1377) (t1 := 1378) dL_law_1370 (by decide) dL_law_1373 dL_law_1374 (by decide) dL_law_1377 rfl ?_
          refine W.lcmp hx hb dL_law_1378 ?_
          refine lv_if_eq (tgt := 1384) hx hb dL_law_1379 (by decide) (fun h9 => ?_) (fun h9 => absurd (z_cmp (hval h0)) h9)
          refine lv_goto (tgt := 2032) hx hb dL_law_1384 (by decide) ?_
          exact NEXT u.1 u.2.1 u.2.2 r1 _ _ ls _ _ hI hC (lv_sub hl [2, 3, 4, 5, 6] rfl) (by omega) (by omega)
      by_cases y18 : y = 18
      · refine z_name y18.symm ?_
        refine lv_tableIn (off := 1348) (tgt := 1387) hx hb dL_law_39 (by decide) (by decide) (by decide) (by decide) ?_
        refine lv_aload_n hx hb dL_law_1387 rfl (lv_at hl 1 rfl) ?_
        refine lv_aload_n hx hb dL_law_1388 rfl (lv_at hl 0 rfl) ?_
        refine lv_iload hx hb dL_law_1389 (lv_at hl 4 rfl) ?_
        refine lv_iconst (v := 1) hx hb dL_law_1391 (by decide) ?_
        refine lv_iadd hx hb dL_law_1392 ?_
        refine va_sld hx hb hX hbl hbA hC.2.2.1 hin1 dL_law_1393 ?_
        refine z_name hp1 ?_
        obtain ⟨rr, c1, hf1, bb, r1, hm, hval, hI⟩ := hS_18 j K L c r p1 hj hI
        refine z_ci (z_rV (As := [.int p1]) (rest := []) ⟨hx, hb, hml, hown, hts⟩ (c_X6_waiting (l := l) (D := D) (cy := cy) (base := s.heap.size) (st := stx) (K := K) (L := L) (c := c) (r := r) (o := o) (z := z) ms p1 hk1 hf1) (cwV 1 hts gL_law_X6_waiting rfl rfl rfl (by decide +kernel) ⟨(Nat.le_of_ble_eq_true rfl), (Nat.le_of_ble_eq_true rfl)⟩) hG hC (zC.recv (ci := 6) (fs := _) hK hC (by rw [hk1]; decide) (by rw [hk1]; exact zc_6 cy _ _) rfl) rfl hl.1 rfl (lv_room (Nat.le_of_ble_eq_true rfl)) dL_law_1394 ⟨show 600 + 16 * j + 0 + 0 ≤ 601024 by omega, show 60000 + 100 * j + 0 + 0 ≤ 7293034 by omega⟩) hC (fun H locs hC => ?_)
        refine lv_aload_n hx hb dL_law_1397 rfl (lv_at hl 2 rfl) ?_
        refine lv_aload_n hx hb dL_law_1398 rfl (lv_at hl 0 rfl) ?_
        refine lv_iload hx hb dL_law_1399 (lv_at hl 4 rfl) ?_
        refine lv_iconst (v := 1) hx hb dL_law_1401 (by decide) ?_
        refine lv_iadd hx hb dL_law_1402 ?_
        refine va_sld hx hb hX hbl hbA hC.2.2.1 hin1 dL_law_1403 ?_
        refine z_name hp1 ?_
        refine z_ci (z_rV (As := [.int p1]) (rest := [.int rr]) ⟨hx, hb, hml, hown, hts⟩ (c_X7_waiting (l := l) (D := D) (cy := cy) (base := s.heap.size) (st := stx) (K := K) (L := L) (c := c1) (r := r) (o := o) (z := z) mo p1 hk2 hm) (cwV 1 hts gL_law_X7_waiting rfl rfl rfl (by decide +kernel) ⟨(Nat.le_of_ble_eq_true rfl), (Nat.le_of_ble_eq_true rfl)⟩) hG hC (zC.recv (ci := 7) (fs := _) hK hC (by rw [hk2]; decide) (by rw [hk2]; exact zc_7 cy _ _) rfl) rfl hl.1 rfl (lv_room (Nat.le_of_ble_eq_true rfl)) dL_law_1404 ⟨show 600 + 16 * j + 0 + 0 ≤ 601024 by omega, show 60000 + 100 * j + 0 + 0 ≤ 7293034 by omega⟩) hC (fun H locs hC => ?_)
        refine lv_icmp_eq (tgt := 2032) hx hb dL_law_1407 (by decide) (fun h9 => ?_) (fun h9 => absurd hval h9)
        exact NEXT K L c1 r1 _ _ ls _ _ hI hC (lv_sub hl [0, 1, 2, 3, 4] rfl) (by omega) (by omega)
      by_cases y19 : y = 19
      · refine z_name y19.symm ?_
        refine lv_tableIn (off := 1373) (tgt := 1412) hx hb dL_law_39 (by decide) (by decide) (by decide) (by decide) ?_
        refine lv_aload_n hx hb dL_law_1412 rfl (lv_at hl 1 rfl) ?_
        refine lv_aload_n hx hb dL_law_1413 rfl (lv_at hl 0 rfl) ?_
        refine lv_iload hx hb dL_law_1414 (lv_at hl 4 rfl) ?_
        refine lv_iconst (v := 1) hx hb dL_law_1416 (by decide) ?_
        refine lv_iadd hx hb dL_law_1417 ?_
        refine va_sld hx hb hX hbl hbA hC.2.2.1 hin1 dL_law_1418 ?_
        refine z_name hp1 ?_
        refine lv_aload_n hx hb dL_law_1419 rfl (lv_at hl 0 rfl) ?_
        refine lv_iload hx hb dL_law_1420 (lv_at hl 4 rfl) ?_
        refine lv_iconst (v := 2) hx hb dL_law_1422 (by decide) ?_
        refine lv_iadd hx hb dL_law_1423 ?_
        refine va_sld hx hb hX hbl hbA hC.2.2.1 hin2 dL_law_1424 ?_
        refine z_name hp2 ?_
        refine lv_aload_n hx hb dL_law_1425 rfl (lv_at hl 0 rfl) ?_
        refine lv_iload hx hb dL_law_1426 (lv_at hl 4 rfl) ?_
        refine lv_iconst (v := 3) hx hb dL_law_1428 (by decide) ?_
        refine lv_iadd hx hb dL_law_1429 ?_
        refine va_sld hx hb hX hbl hbA hC.2.2.1 hin3 dL_law_1430 ?_
        refine z_name hp3 ?_
        refine lv_aload_n hx hb dL_law_1431 rfl (lv_at hl 3 rfl) ?_
        obtain ⟨res, hf1, hf2, hS⟩ := hS_19 j K L c r p1 p2 p3 hj hI
        refine z_wcall (z_rW (As := [.ref ms, .int p1, .int p2, .int p3, .ref ou]) (rest := []) ⟨hx, hb, hml, hown, hts⟩ (c_L_move (l := l) (D := D) (cy := cy) (base := s.heap.size) (st := stx) (K := K) (L := L) (c := c) (r := r) (o := o) (z := z) ms p1 p2 p3 ou hk1 hk3 hst hf1 hf2) (vx_cwSW 5 hts gL_law_L_move rfl rfl rfl (by decide +kernel) ⟨(Nat.le_of_ble_eq_true rfl), (Nat.le_of_ble_eq_true rfl)⟩) hG hC rfl hl.1 rfl (lv_room (Nat.le_of_ble_eq_true rfl)) dL_law_1432 ⟨show 600 + 16 * j + 2 ≤ 601024 by omega, show 60000 + 100 * j + 12 ≤ 7293034 by omega⟩) hC (fun rr u H locs hpost hC => ?_)
        obtain ⟨bb, r1, hm, hth, hval, hI⟩ := hS rr u hpost
        have hval := fun h : rr = 0 => (congrArg (zl u.2.2 170 ou) sb_cl0).trans (hval h)
        obtain ⟨hk1, hk2, hk3⟩ := hIK _ _ _ _ _ hI
        have hthr : f_X7_thrown u.1 z r1 mo = some (zi r1 0 mo 0) := rfl
        refine lv_istore (lv' := [(5, .int rr), (0, .ref b), (1, .ref ms), (2, .ref mo), (3, .ref ou), (4, .int (nI (5 * j)))]) hx hb dL_law_1435 hl (by decide) rfl (fun ls hl => ?_)
        refine lv_aload_n hx hb dL_law_1437 rfl (lv_at hl 3 rfl) ?_
        refine lv_aload_n hx hb dL_law_1438 rfl (lv_at hl 1 rfl) ?_
        refine lv_iload hx hb dL_law_1439 (lv_at hl 5 rfl) ?_
        refine lv_iconst (v := 1) hx hb dL_law_1441 (by decide) ?_
        refine lv_iadd hx hb dL_law_1442 ?_
        refine va_sld hx hb hX hbl hbA hC.2.2.1 hin1 dL_law_1443 ?_
        refine z_name hp1 ?_
        refine lv_aload_n hx hb dL_law_1444 rfl (lv_at hl 1 rfl) ?_
        refine lv_iload hx hb dL_law_1445 (lv_at hl 5 rfl) ?_
        refine lv_iconst (v := 2) hx hb dL_law_1447 (by decide) ?_
        refine lv_iadd hx hb dL_law_1448 ?_
        refine va_sld hx hb hX hbl hbA hC.2.2.1 hin2 dL_law_1449 ?_
        refine z_name hp2 ?_
        refine lv_aload_n hx hb dL_law_1450 rfl (lv_at hl 1 rfl) ?_
        refine lv_iload hx hb dL_law_1451 (lv_at hl 5 rfl) ?_
        refine lv_iconst (v := 3) hx hb dL_law_1453 (by decide) ?_
        refine lv_iadd hx hb dL_law_1454 ?_
        refine va_sld hx hb hX hbl hbA hC.2.2.1 hin3 dL_law_1455 ?_
        refine z_name hp3 ?_
        refine z_ci (z_rV (As := [.int p1, .int p2, .int p3]) (rest := []) ⟨hx, hb, hml, hown, hts⟩ (c_X7_move (l := l) (D := D) (cy := cy) (base := s.heap.size) (st := stx) (K := u.1) (L := u.2.1) (c := u.2.2) (r := r) (o := o) (z := z) mo p1 p2 p3 hk2 hm) (cwV 3 hts gL_law_X7_move rfl rfl rfl (by decide +kernel) ⟨(Nat.le_of_ble_eq_true rfl), (Nat.le_of_ble_eq_true rfl)⟩) hG hC (zC.recv (ci := 7) (fs := _) hK hC (by rw [hk2]; decide) (by rw [hk2]; exact zc_7 cy _ _) rfl) rfl hl.1 rfl (lv_room (Nat.le_of_ble_eq_true rfl)) dL_law_1456 ⟨show 600 + 16 * j + 2 + 0 ≤ 601024 by omega, show 60000 + 100 * j + 12 + 0 ≤ 7293034 by omega⟩) hC (fun H locs hC => ?_)
        refine lv_istore (lv' := [(6, .int bb), (5, .int rr), (0, .ref b), (1, .ref ms), (2, .ref mo), (3, .ref ou), (4, .int (nI (5 * j)))]) hx hb dL_law_1459 hl (by decide) rfl (fun ls hl => ?_)
        refine lv_aload_n hx hb dL_law_1461 rfl (lv_at hl 4 rfl) ?_
        refine z_ci (z_rV (As := []) (rest := []) ⟨hx, hb, hml, hown, hts⟩ (c_X7_thrown (l := l) (D := D) (cy := cy) (base := s.heap.size) (st := stx) (K := u.1) (L := u.2.1) (c := u.2.2) (r := r1) (o := o) (z := z) mo hk2 hthr) (cwV 0 hts gL_law_X7_thrown rfl rfl rfl (by decide +kernel) ⟨(Nat.le_of_ble_eq_true rfl), (Nat.le_of_ble_eq_true rfl)⟩) hG hC (zC.recv (ci := 7) (fs := _) hK hC (by rw [hk2]; decide) (by rw [hk2]; exact zc_7 cy _ _) rfl) rfl hl.1 rfl (lv_room (Nat.le_of_ble_eq_true rfl)) dL_law_1462 ⟨show 600 + 16 * j + 2 + 0 ≤ 601024 by omega, show 60000 + 100 * j + 12 + 0 ≤ 7293034 by omega⟩) hC (fun H locs hC => ?_)
        refine lv_iload hx hb dL_law_1465 (lv_at hl 1 rfl) ?_
        refine lv_icmp_eq (tgt := 1472) hx hb dL_law_1467 (by decide) (fun h9 => ?_) (fun h9 => absurd hth h9)
        refine lv_iload hx hb dL_law_1472 (lv_at hl 1 rfl) ?_
        refine lv_if_ne (tgt := 1496) hx hb dL_law_1474 (by decide) (fun h0 => ?_) (fun h0 => ?_)
        · refine lv_goto (tgt := 2032) hx hb dL_law_1496 (by decide) ?_
          exact NEXT u.1 u.2.1 u.2.2 r1 _ _ ls _ _ hI hC (lv_sub hl [2, 3, 4, 5, 6] rfl) (by omega) (by omega)
        · refine lv_aload_n hx hb dL_law_1477 rfl (lv_at hl 5 rfl) ?_
          refine lv_iconst (v := 0) hx hb dL_law_1478 (by decide) ?_
          refine xg_17 hx hb hK hC hk3 (by unfold vp_in; decide) dL_law_1479 ?_
          refine lv_iload hx hb dL_law_1480 (lv_at hl 0 rfl) ?_
          refine z_bl hx hb (t0 := 1489) (t1 := 1490) dL_law_1482 (by decide) dL_law_1485 dL_law_1486 (by decide) dL_law_1489 rfl ?_
          refine W.lcmp hx hb dL_law_1490 ?_
          refine lv_if_eq (tgt := 1496) hx hb dL_law_1491 (by decide) (fun h9 => ?_) (fun h9 => absurd (z_cmp (hval h0)) h9)
          refine lv_goto (tgt := 2032) hx hb dL_law_1496 (by decide) ?_
          exact NEXT u.1 u.2.1 u.2.2 r1 _ _ ls _ _ hI hC (lv_sub hl [2, 3, 4, 5, 6] rfl) (by omega) (by omega)
      by_cases y20 : y = 20
      · refine z_name y20.symm ?_
        refine lv_tableIn (off := 1460) (tgt := 1499) hx hb dL_law_39 (by decide) (by decide) (by decide) (by decide) ?_
        refine lv_aload_n hx hb dL_law_1499 rfl (lv_at hl 1 rfl) ?_
        refine lv_aload_n hx hb dL_law_1500 rfl (lv_at hl 0 rfl) ?_
        refine lv_iload hx hb dL_law_1501 (lv_at hl 4 rfl) ?_
        refine lv_iconst (v := 1) hx hb dL_law_1503 (by decide) ?_
        refine lv_iadd hx hb dL_law_1504 ?_
        refine va_sld hx hb hX hbl hbA hC.2.2.1 hin1 dL_law_1505 ?_
        refine z_name hp1 ?_
        refine lv_aload_n hx hb dL_law_1506 rfl (lv_at hl 0 rfl) ?_
        refine lv_iload hx hb dL_law_1507 (lv_at hl 4 rfl) ?_
        refine lv_iconst (v := 2) hx hb dL_law_1509 (by decide) ?_
        refine lv_iadd hx hb dL_law_1510 ?_
        refine va_sld hx hb hX hbl hbA hC.2.2.1 hin2 dL_law_1511 ?_
        refine z_name hp2 ?_
        refine lv_aload_n hx hb dL_law_1512 rfl (lv_at hl 3 rfl) ?_
        obtain ⟨res, hf1, hf2, hS⟩ := hS_20 j K L c r p1 p2 hj hI
        refine z_wcall (z_rW (As := [.ref ms, .int p1, .int p2, .ref ou]) (rest := []) ⟨hx, hb, hml, hown, hts⟩ (c_L_change (l := l) (D := D) (cy := cy) (base := s.heap.size) (st := stx) (K := K) (L := L) (c := c) (r := r) (o := o) (z := z) ms p1 p2 ou hk1 hk3 hst hf1 hf2) (vx_cwSW 4 hts gL_law_L_change rfl rfl rfl (by decide +kernel) ⟨(Nat.le_of_ble_eq_true rfl), (Nat.le_of_ble_eq_true rfl)⟩) hG hC rfl hl.1 rfl (lv_room (Nat.le_of_ble_eq_true rfl)) dL_law_1513 ⟨show 600 + 16 * j + 3 ≤ 601024 by omega, show 60000 + 100 * j + 18 ≤ 7293034 by omega⟩) hC (fun rr u H locs hpost hC => ?_)
        obtain ⟨bb, r1, hm, hth, hval, hI⟩ := hS rr u hpost
        have hval := fun h : rr = 0 => (congrArg (zl u.2.2 170 ou) sb_cl0).trans (hval h)
        obtain ⟨hk1, hk2, hk3⟩ := hIK _ _ _ _ _ hI
        have hthr : f_X7_thrown u.1 z r1 mo = some (zi r1 0 mo 0) := rfl
        refine lv_istore (lv' := [(5, .int rr), (0, .ref b), (1, .ref ms), (2, .ref mo), (3, .ref ou), (4, .int (nI (5 * j)))]) hx hb dL_law_1516 hl (by decide) rfl (fun ls hl => ?_)
        refine lv_aload_n hx hb dL_law_1518 rfl (lv_at hl 3 rfl) ?_
        refine lv_aload_n hx hb dL_law_1519 rfl (lv_at hl 1 rfl) ?_
        refine lv_iload hx hb dL_law_1520 (lv_at hl 5 rfl) ?_
        refine lv_iconst (v := 1) hx hb dL_law_1522 (by decide) ?_
        refine lv_iadd hx hb dL_law_1523 ?_
        refine va_sld hx hb hX hbl hbA hC.2.2.1 hin1 dL_law_1524 ?_
        refine z_name hp1 ?_
        refine lv_aload_n hx hb dL_law_1525 rfl (lv_at hl 1 rfl) ?_
        refine lv_iload hx hb dL_law_1526 (lv_at hl 5 rfl) ?_
        refine lv_iconst (v := 2) hx hb dL_law_1528 (by decide) ?_
        refine lv_iadd hx hb dL_law_1529 ?_
        refine va_sld hx hb hX hbl hbA hC.2.2.1 hin2 dL_law_1530 ?_
        refine z_name hp2 ?_
        refine z_ci (z_rV (As := [.int p1, .int p2]) (rest := []) ⟨hx, hb, hml, hown, hts⟩ (c_X7_change (l := l) (D := D) (cy := cy) (base := s.heap.size) (st := stx) (K := u.1) (L := u.2.1) (c := u.2.2) (r := r) (o := o) (z := z) mo p1 p2 hk2 hm) (cwV 2 hts gL_law_X7_change rfl rfl rfl (by decide +kernel) ⟨(Nat.le_of_ble_eq_true rfl), (Nat.le_of_ble_eq_true rfl)⟩) hG hC (zC.recv (ci := 7) (fs := _) hK hC (by rw [hk2]; decide) (by rw [hk2]; exact zc_7 cy _ _) rfl) rfl hl.1 rfl (lv_room (Nat.le_of_ble_eq_true rfl)) dL_law_1531 ⟨show 600 + 16 * j + 3 + 0 ≤ 601024 by omega, show 60000 + 100 * j + 18 + 0 ≤ 7293034 by omega⟩) hC (fun H locs hC => ?_)
        refine lv_istore (lv' := [(6, .int bb), (5, .int rr), (0, .ref b), (1, .ref ms), (2, .ref mo), (3, .ref ou), (4, .int (nI (5 * j)))]) hx hb dL_law_1534 hl (by decide) rfl (fun ls hl => ?_)
        refine lv_aload_n hx hb dL_law_1536 rfl (lv_at hl 4 rfl) ?_
        refine z_ci (z_rV (As := []) (rest := []) ⟨hx, hb, hml, hown, hts⟩ (c_X7_thrown (l := l) (D := D) (cy := cy) (base := s.heap.size) (st := stx) (K := u.1) (L := u.2.1) (c := u.2.2) (r := r1) (o := o) (z := z) mo hk2 hthr) (cwV 0 hts gL_law_X7_thrown rfl rfl rfl (by decide +kernel) ⟨(Nat.le_of_ble_eq_true rfl), (Nat.le_of_ble_eq_true rfl)⟩) hG hC (zC.recv (ci := 7) (fs := _) hK hC (by rw [hk2]; decide) (by rw [hk2]; exact zc_7 cy _ _) rfl) rfl hl.1 rfl (lv_room (Nat.le_of_ble_eq_true rfl)) dL_law_1537 ⟨show 600 + 16 * j + 3 + 0 ≤ 601024 by omega, show 60000 + 100 * j + 18 + 0 ≤ 7293034 by omega⟩) hC (fun H locs hC => ?_)
        refine lv_iload hx hb dL_law_1540 (lv_at hl 1 rfl) ?_
        refine lv_icmp_eq (tgt := 1547) hx hb dL_law_1542 (by decide) (fun h9 => ?_) (fun h9 => absurd hth h9)
        refine lv_iload hx hb dL_law_1547 (lv_at hl 1 rfl) ?_
        refine lv_if_ne (tgt := 1571) hx hb dL_law_1549 (by decide) (fun h0 => ?_) (fun h0 => ?_)
        · refine lv_goto (tgt := 2032) hx hb dL_law_1571 (by decide) ?_
          exact NEXT u.1 u.2.1 u.2.2 r1 _ _ ls _ _ hI hC (lv_sub hl [2, 3, 4, 5, 6] rfl) (by omega) (by omega)
        · refine lv_aload_n hx hb dL_law_1552 rfl (lv_at hl 5 rfl) ?_
          refine lv_iconst (v := 0) hx hb dL_law_1553 (by decide) ?_
          refine xg_17 hx hb hK hC hk3 (by unfold vp_in; decide) dL_law_1554 ?_
          refine lv_iload hx hb dL_law_1555 (lv_at hl 0 rfl) ?_
          refine z_bl hx hb (t0 := 1564) (t1 := 1565) dL_law_1557 (by decide) dL_law_1560 dL_law_1561 (by decide) dL_law_1564 rfl ?_
          refine W.lcmp hx hb dL_law_1565 ?_
          refine lv_if_eq (tgt := 1571) hx hb dL_law_1566 (by decide) (fun h9 => ?_) (fun h9 => absurd (z_cmp (hval h0)) h9)
          refine lv_goto (tgt := 2032) hx hb dL_law_1571 (by decide) ?_
          exact NEXT u.1 u.2.1 u.2.2 r1 _ _ ls _ _ hI hC (lv_sub hl [2, 3, 4, 5, 6] rfl) (by omega) (by omega)
      by_cases y21 : y = 21
      · refine z_name y21.symm ?_
        refine lv_tableIn (off := 1535) (tgt := 1574) hx hb dL_law_39 (by decide) (by decide) (by decide) (by decide) ?_
        refine lv_aload_n hx hb dL_law_1574 rfl (lv_at hl 1 rfl) ?_
        refine lv_aload_n hx hb dL_law_1575 rfl (lv_at hl 0 rfl) ?_
        refine lv_iload hx hb dL_law_1576 (lv_at hl 4 rfl) ?_
        refine lv_iconst (v := 1) hx hb dL_law_1578 (by decide) ?_
        refine lv_iadd hx hb dL_law_1579 ?_
        refine va_sld hx hb hX hbl hbA hC.2.2.1 hin1 dL_law_1580 ?_
        refine z_name hp1 ?_
        refine lv_aload_n hx hb dL_law_1581 rfl (lv_at hl 3 rfl) ?_
        obtain ⟨res, hf1, hf2, hS⟩ := hS_21 j K L c r p1 hj hI
        refine z_wcall (z_rW (As := [.ref ms, .int p1, .ref ou]) (rest := []) ⟨hx, hb, hml, hown, hts⟩ (c_L_leave (l := l) (D := D) (cy := cy) (base := s.heap.size) (st := stx) (K := K) (L := L) (c := c) (r := r) (o := o) (z := z) ms p1 ou hk1 hk3 hst hf1 hf2) (vx_cwSW 3 hts gL_law_L_leave rfl rfl rfl (by decide +kernel) ⟨(Nat.le_of_ble_eq_true rfl), (Nat.le_of_ble_eq_true rfl)⟩) hG hC rfl hl.1 rfl (lv_room (Nat.le_of_ble_eq_true rfl)) dL_law_1582 ⟨show 600 + 16 * j + 2 ≤ 601024 by omega, show 60000 + 100 * j + 12 ≤ 7293034 by omega⟩) hC (fun rr u H locs hpost hC => ?_)
        obtain ⟨bb, r1, hm, hth, hval, hI⟩ := hS rr u hpost
        have hval := fun h : rr = 0 => (congrArg (zl u.2.2 170 ou) sb_cl0).trans (hval h)
        obtain ⟨hk1, hk2, hk3⟩ := hIK _ _ _ _ _ hI
        have hthr : f_X7_thrown u.1 z r1 mo = some (zi r1 0 mo 0) := rfl
        refine lv_istore (lv' := [(5, .int rr), (0, .ref b), (1, .ref ms), (2, .ref mo), (3, .ref ou), (4, .int (nI (5 * j)))]) hx hb dL_law_1585 hl (by decide) rfl (fun ls hl => ?_)
        refine lv_aload_n hx hb dL_law_1587 rfl (lv_at hl 3 rfl) ?_
        refine lv_aload_n hx hb dL_law_1588 rfl (lv_at hl 1 rfl) ?_
        refine lv_iload hx hb dL_law_1589 (lv_at hl 5 rfl) ?_
        refine lv_iconst (v := 1) hx hb dL_law_1591 (by decide) ?_
        refine lv_iadd hx hb dL_law_1592 ?_
        refine va_sld hx hb hX hbl hbA hC.2.2.1 hin1 dL_law_1593 ?_
        refine z_name hp1 ?_
        refine z_ci (z_rV (As := [.int p1]) (rest := []) ⟨hx, hb, hml, hown, hts⟩ (c_X7_leave (l := l) (D := D) (cy := cy) (base := s.heap.size) (st := stx) (K := u.1) (L := u.2.1) (c := u.2.2) (r := r) (o := o) (z := z) mo p1 hk2 hm) (cwV 1 hts gL_law_X7_leave rfl rfl rfl (by decide +kernel) ⟨(Nat.le_of_ble_eq_true rfl), (Nat.le_of_ble_eq_true rfl)⟩) hG hC (zC.recv (ci := 7) (fs := _) hK hC (by rw [hk2]; decide) (by rw [hk2]; exact zc_7 cy _ _) rfl) rfl hl.1 rfl (lv_room (Nat.le_of_ble_eq_true rfl)) dL_law_1594 ⟨show 600 + 16 * j + 2 + 0 ≤ 601024 by omega, show 60000 + 100 * j + 12 + 0 ≤ 7293034 by omega⟩) hC (fun H locs hC => ?_)
        refine lv_istore (lv' := [(6, .int bb), (5, .int rr), (0, .ref b), (1, .ref ms), (2, .ref mo), (3, .ref ou), (4, .int (nI (5 * j)))]) hx hb dL_law_1597 hl (by decide) rfl (fun ls hl => ?_)
        refine lv_aload_n hx hb dL_law_1599 rfl (lv_at hl 4 rfl) ?_
        refine z_ci (z_rV (As := []) (rest := []) ⟨hx, hb, hml, hown, hts⟩ (c_X7_thrown (l := l) (D := D) (cy := cy) (base := s.heap.size) (st := stx) (K := u.1) (L := u.2.1) (c := u.2.2) (r := r1) (o := o) (z := z) mo hk2 hthr) (cwV 0 hts gL_law_X7_thrown rfl rfl rfl (by decide +kernel) ⟨(Nat.le_of_ble_eq_true rfl), (Nat.le_of_ble_eq_true rfl)⟩) hG hC (zC.recv (ci := 7) (fs := _) hK hC (by rw [hk2]; decide) (by rw [hk2]; exact zc_7 cy _ _) rfl) rfl hl.1 rfl (lv_room (Nat.le_of_ble_eq_true rfl)) dL_law_1600 ⟨show 600 + 16 * j + 2 + 0 ≤ 601024 by omega, show 60000 + 100 * j + 12 + 0 ≤ 7293034 by omega⟩) hC (fun H locs hC => ?_)
        refine lv_iload hx hb dL_law_1603 (lv_at hl 1 rfl) ?_
        refine lv_icmp_eq (tgt := 1610) hx hb dL_law_1605 (by decide) (fun h9 => ?_) (fun h9 => absurd hth h9)
        refine lv_iload hx hb dL_law_1610 (lv_at hl 1 rfl) ?_
        refine lv_if_ne (tgt := 1627) hx hb dL_law_1612 (by decide) (fun h0 => ?_) (fun h0 => ?_)
        · refine lv_goto (tgt := 2032) hx hb dL_law_1627 (by decide) ?_
          exact NEXT u.1 u.2.1 u.2.2 r1 _ _ ls _ _ hI hC (lv_sub hl [2, 3, 4, 5, 6] rfl) (by omega) (by omega)
        · refine lv_aload_n hx hb dL_law_1615 rfl (lv_at hl 5 rfl) ?_
          refine lv_iconst (v := 0) hx hb dL_law_1616 (by decide) ?_
          refine xg_17 hx hb hK hC hk3 (by unfold vp_in; decide) dL_law_1617 ?_
          refine lv_iload hx hb dL_law_1618 (lv_at hl 0 rfl) ?_
          refine lv_i2l (v := (Int32.toInt64 bb)) hx hb dL_law_1620 rfl ?_
          refine W.lcmp hx hb dL_law_1621 ?_
          refine lv_if_eq (tgt := 1627) hx hb dL_law_1622 (by decide) (fun h9 => ?_) (fun h9 => absurd (z_cmp (hval h0)) h9)
          refine lv_goto (tgt := 2032) hx hb dL_law_1627 (by decide) ?_
          exact NEXT u.1 u.2.1 u.2.2 r1 _ _ ls _ _ hI hC (lv_sub hl [2, 3, 4, 5, 6] rfl) (by omega) (by omega)
      by_cases y22 : y = 22
      · refine z_name y22.symm ?_
        refine lv_tableIn (off := 1591) (tgt := 1630) hx hb dL_law_39 (by decide) (by decide) (by decide) (by decide) ?_
        refine lv_aload_n hx hb dL_law_1630 rfl (lv_at hl 1 rfl) ?_
        refine lv_aload_n hx hb dL_law_1631 rfl (lv_at hl 0 rfl) ?_
        refine lv_iload hx hb dL_law_1632 (lv_at hl 4 rfl) ?_
        refine lv_iconst (v := 1) hx hb dL_law_1634 (by decide) ?_
        refine lv_iadd hx hb dL_law_1635 ?_
        refine va_sld hx hb hX hbl hbA hC.2.2.1 hin1 dL_law_1636 ?_
        refine z_name hp1 ?_
        obtain ⟨res, hf1, hf2, hS⟩ := hS_22 j K L c r p1 hj hI
        refine z_wcall (z_rW (As := [.ref ms, .int p1]) (rest := []) ⟨hx, hb, hml, hown, hts⟩ (c_L_hour (l := l) (D := D) (cy := cy) (base := s.heap.size) (st := stx) (K := K) (L := L) (c := c) (r := r) (o := o) (z := z) ms p1 hk1 hst hf1 hf2) (vx_cwSW 2 hts gL_law_L_hour rfl rfl rfl (by decide +kernel) ⟨(Nat.le_of_ble_eq_true rfl), (Nat.le_of_ble_eq_true rfl)⟩) hG hC rfl hl.1 rfl (lv_room (Nat.le_of_ble_eq_true rfl)) dL_law_1637 ⟨show 600 + 16 * j + 2 ≤ 601024 by omega, show 60000 + 100 * j + 12 ≤ 7293034 by omega⟩) hC (fun rr u H locs hpost hC => ?_)
        obtain ⟨r1, hm, hth, hI⟩ := hS rr u hpost
        obtain ⟨hk1, hk2, hk3⟩ := hIK _ _ _ _ _ hI
        have hthr : f_X7_thrown u.1 z r1 mo = some (zi r1 0 mo 0) := rfl
        refine lv_istore (lv' := [(5, .int rr), (0, .ref b), (1, .ref ms), (2, .ref mo), (3, .ref ou), (4, .int (nI (5 * j)))]) hx hb dL_law_1640 hl (by decide) rfl (fun ls hl => ?_)
        refine lv_aload_n hx hb dL_law_1642 rfl (lv_at hl 3 rfl) ?_
        refine lv_aload_n hx hb dL_law_1643 rfl (lv_at hl 1 rfl) ?_
        refine lv_iload hx hb dL_law_1644 (lv_at hl 5 rfl) ?_
        refine lv_iconst (v := 1) hx hb dL_law_1646 (by decide) ?_
        refine lv_iadd hx hb dL_law_1647 ?_
        refine va_sld hx hb hX hbl hbA hC.2.2.1 hin1 dL_law_1648 ?_
        refine z_name hp1 ?_
        refine z_cv (z_rV (As := [.int p1]) (rest := []) ⟨hx, hb, hml, hown, hts⟩ (c_X7_hour (l := l) (D := D) (cy := cy) (base := s.heap.size) (st := stx) (K := u.1) (L := u.2.1) (c := u.2.2) (r := r) (o := o) (z := z) mo p1 hk2 hm) (cwV 1 hts gL_law_X7_hour rfl rfl rfl (by decide +kernel) ⟨(Nat.le_of_ble_eq_true rfl), (Nat.le_of_ble_eq_true rfl)⟩) hG hC (zC.recv (ci := 7) (fs := _) hK hC (by rw [hk2]; decide) (by rw [hk2]; exact zc_7 cy _ _) rfl) rfl hl.1 rfl (lv_room (Nat.le_of_ble_eq_true rfl)) dL_law_1649 ⟨show 600 + 16 * j + 2 + 0 ≤ 601024 by omega, show 60000 + 100 * j + 12 + 0 ≤ 7293034 by omega⟩) hC (fun H locs hC => ?_)
        refine lv_aload_n hx hb dL_law_1652 rfl (lv_at hl 3 rfl) ?_
        refine z_ci (z_rV (As := []) (rest := []) ⟨hx, hb, hml, hown, hts⟩ (c_X7_thrown (l := l) (D := D) (cy := cy) (base := s.heap.size) (st := stx) (K := u.1) (L := u.2.1) (c := u.2.2) (r := r1) (o := o) (z := z) mo hk2 hthr) (cwV 0 hts gL_law_X7_thrown rfl rfl rfl (by decide +kernel) ⟨(Nat.le_of_ble_eq_true rfl), (Nat.le_of_ble_eq_true rfl)⟩) hG hC (zC.recv (ci := 7) (fs := _) hK hC (by rw [hk2]; decide) (by rw [hk2]; exact zc_7 cy _ _) rfl) rfl hl.1 rfl (lv_room (Nat.le_of_ble_eq_true rfl)) dL_law_1653 ⟨show 600 + 16 * j + 2 + 0 ≤ 601024 by omega, show 60000 + 100 * j + 12 + 0 ≤ 7293034 by omega⟩) hC (fun H locs hC => ?_)
        refine lv_iload hx hb dL_law_1656 (lv_at hl 0 rfl) ?_
        refine lv_icmp_eq (tgt := 1663) hx hb dL_law_1658 (by decide) (fun h9 => ?_) (fun h9 => absurd hth h9)
        refine lv_goto (tgt := 2032) hx hb dL_law_1663 (by decide) ?_
        exact NEXT u.1 u.2.1 u.2.2 r1 _ _ ls _ _ hI hC (lv_sub hl [1, 2, 3, 4, 5] rfl) (by omega) (by omega)
      by_cases y23 : y = 23
      · refine z_name y23.symm ?_
        refine lv_tableIn (off := 1627) (tgt := 1666) hx hb dL_law_39 (by decide) (by decide) (by decide) (by decide) ?_
        refine lv_aload_n hx hb dL_law_1666 rfl (lv_at hl 1 rfl) ?_
        refine lv_aload_n hx hb dL_law_1667 rfl (lv_at hl 3 rfl) ?_
        obtain ⟨res, hf1, hf2, hS⟩ := hS_23 j K L c r hj hI
        refine z_wcall (z_rW (As := [.ref ms, .ref ou]) (rest := []) ⟨hx, hb, hml, hown, hts⟩ (c_L_close (l := l) (D := D) (cy := cy) (base := s.heap.size) (st := stx) (K := K) (L := L) (c := c) (r := r) (o := o) (z := z) ms ou hk1 hk3 hst hf1 hf2) (vx_cwSW 2 hts gL_law_L_close rfl rfl rfl (by decide +kernel) ⟨(Nat.le_of_ble_eq_true rfl), (Nat.le_of_ble_eq_true rfl)⟩) hG hC rfl hl.1 rfl (lv_room (Nat.le_of_ble_eq_true rfl)) dL_law_1668 ⟨show 600 + 16 * j + 1 ≤ 601024 by omega, show 60000 + 100 * j + 6 ≤ 7293034 by omega⟩) hC (fun rr u H locs hpost hC => ?_)
        obtain ⟨bb, r1, hm, hth, hval, hI⟩ := hS rr u hpost
        have hval := fun h : rr = 0 => (congrArg (zl u.2.2 170 ou) sb_cl0).trans (hval h)
        obtain ⟨hk1, hk2, hk3⟩ := hIK _ _ _ _ _ hI
        have hthr : f_X7_thrown u.1 z r1 mo = some (zi r1 0 mo 0) := rfl
        refine lv_istore (lv' := [(5, .int rr), (0, .ref b), (1, .ref ms), (2, .ref mo), (3, .ref ou), (4, .int (nI (5 * j)))]) hx hb dL_law_1671 hl (by decide) rfl (fun ls hl => ?_)
        refine lv_aload_n hx hb dL_law_1673 rfl (lv_at hl 3 rfl) ?_
        refine z_ci (z_rV (As := []) (rest := []) ⟨hx, hb, hml, hown, hts⟩ (c_X7_close (l := l) (D := D) (cy := cy) (base := s.heap.size) (st := stx) (K := u.1) (L := u.2.1) (c := u.2.2) (r := r) (o := o) (z := z) mo hk2 hm) (cwV 0 hts gL_law_X7_close rfl rfl rfl (by decide +kernel) ⟨(Nat.le_of_ble_eq_true rfl), (Nat.le_of_ble_eq_true rfl)⟩) hG hC (zC.recv (ci := 7) (fs := _) hK hC (by rw [hk2]; decide) (by rw [hk2]; exact zc_7 cy _ _) rfl) rfl hl.1 rfl (lv_room (Nat.le_of_ble_eq_true rfl)) dL_law_1674 ⟨show 600 + 16 * j + 1 + 0 ≤ 601024 by omega, show 60000 + 100 * j + 6 + 0 ≤ 7293034 by omega⟩) hC (fun H locs hC => ?_)
        refine lv_istore (lv' := [(6, .int bb), (5, .int rr), (0, .ref b), (1, .ref ms), (2, .ref mo), (3, .ref ou), (4, .int (nI (5 * j)))]) hx hb dL_law_1677 hl (by decide) rfl (fun ls hl => ?_)
        refine lv_aload_n hx hb dL_law_1679 rfl (lv_at hl 4 rfl) ?_
        refine z_ci (z_rV (As := []) (rest := []) ⟨hx, hb, hml, hown, hts⟩ (c_X7_thrown (l := l) (D := D) (cy := cy) (base := s.heap.size) (st := stx) (K := u.1) (L := u.2.1) (c := u.2.2) (r := r1) (o := o) (z := z) mo hk2 hthr) (cwV 0 hts gL_law_X7_thrown rfl rfl rfl (by decide +kernel) ⟨(Nat.le_of_ble_eq_true rfl), (Nat.le_of_ble_eq_true rfl)⟩) hG hC (zC.recv (ci := 7) (fs := _) hK hC (by rw [hk2]; decide) (by rw [hk2]; exact zc_7 cy _ _) rfl) rfl hl.1 rfl (lv_room (Nat.le_of_ble_eq_true rfl)) dL_law_1680 ⟨show 600 + 16 * j + 1 + 0 ≤ 601024 by omega, show 60000 + 100 * j + 6 + 0 ≤ 7293034 by omega⟩) hC (fun H locs hC => ?_)
        refine lv_iload hx hb dL_law_1683 (lv_at hl 1 rfl) ?_
        refine lv_icmp_eq (tgt := 1690) hx hb dL_law_1685 (by decide) (fun h9 => ?_) (fun h9 => absurd hth h9)
        refine lv_iload hx hb dL_law_1690 (lv_at hl 1 rfl) ?_
        refine lv_if_ne (tgt := 1707) hx hb dL_law_1692 (by decide) (fun h0 => ?_) (fun h0 => ?_)
        · refine lv_goto (tgt := 2032) hx hb dL_law_1707 (by decide) ?_
          exact NEXT u.1 u.2.1 u.2.2 r1 _ _ ls _ _ hI hC (lv_sub hl [2, 3, 4, 5, 6] rfl) (by omega) (by omega)
        · refine lv_aload_n hx hb dL_law_1695 rfl (lv_at hl 5 rfl) ?_
          refine lv_iconst (v := 0) hx hb dL_law_1696 (by decide) ?_
          refine xg_17 hx hb hK hC hk3 (by unfold vp_in; decide) dL_law_1697 ?_
          refine lv_iload hx hb dL_law_1698 (lv_at hl 0 rfl) ?_
          refine lv_i2l (v := (Int32.toInt64 bb)) hx hb dL_law_1700 rfl ?_
          refine W.lcmp hx hb dL_law_1701 ?_
          refine lv_if_eq (tgt := 1707) hx hb dL_law_1702 (by decide) (fun h9 => ?_) (fun h9 => absurd (z_cmp (hval h0)) h9)
          refine lv_goto (tgt := 2032) hx hb dL_law_1707 (by decide) ?_
          exact NEXT u.1 u.2.1 u.2.2 r1 _ _ ls _ _ hI hC (lv_sub hl [2, 3, 4, 5, 6] rfl) (by omega) (by omega)
      by_cases y24 : y = 24
      · refine z_name y24.symm ?_
        refine lv_tableIn (off := 1671) (tgt := 1710) hx hb dL_law_39 (by decide) (by decide) (by decide) (by decide) ?_
        refine lv_aload_n hx hb dL_law_1710 rfl (lv_at hl 1 rfl) ?_
        refine lv_aload_n hx hb dL_law_1711 rfl (lv_at hl 0 rfl) ?_
        refine lv_iload hx hb dL_law_1712 (lv_at hl 4 rfl) ?_
        refine lv_iconst (v := 1) hx hb dL_law_1714 (by decide) ?_
        refine lv_iadd hx hb dL_law_1715 ?_
        refine va_sld hx hb hX hbl hbA hC.2.2.1 hin1 dL_law_1716 ?_
        refine z_name hp1 ?_
        refine lv_aload_n hx hb dL_law_1717 rfl (lv_at hl 0 rfl) ?_
        refine lv_iload hx hb dL_law_1718 (lv_at hl 4 rfl) ?_
        refine lv_iconst (v := 2) hx hb dL_law_1720 (by decide) ?_
        refine lv_iadd hx hb dL_law_1721 ?_
        refine va_sld hx hb hX hbl hbA hC.2.2.1 hin2 dL_law_1722 ?_
        refine z_name hp2 ?_
        refine lv_i2l (v := (Int32.toInt64 p2)) hx hb dL_law_1723 rfl ?_
        refine lv_bipush (v := 32) hx hb dL_law_1724 (by decide) ?_
        refine lv_lshl (v := ((Int32.toInt64 p2) <<< (Int32.toInt64 32 &&& 63))) hx hb dL_law_1726 rfl ?_
        refine lv_aload_n hx hb dL_law_1727 rfl (lv_at hl 0 rfl) ?_
        refine lv_iload hx hb dL_law_1728 (lv_at hl 4 rfl) ?_
        refine lv_iconst (v := 3) hx hb dL_law_1730 (by decide) ?_
        refine lv_iadd hx hb dL_law_1731 ?_
        refine va_sld hx hb hX hbl hbA hC.2.2.1 hin3 dL_law_1732 ?_
        refine z_name hp3 ?_
        refine lv_i2l (v := (Int32.toInt64 p3)) hx hb dL_law_1733 rfl ?_
        refine lv_ldc2 (v := 4294967295) hx hb hown w0 dL_law_1734 ?_
        refine lv_land hx hb dL_law_1737 ?_
        refine lv_lor hx hb dL_law_1738 ?_
        refine lv_aload_n hx hb dL_law_1739 rfl (lv_at hl 3 rfl) ?_
        obtain ⟨res, hf1, hf2, hS⟩ := hS_24 j K L c r p1 p2 p3 hj hI
        refine z_wcall (z_rW (As := [.ref ms, .int p1, .long (((Int32.toInt64 p2) <<< (Int32.toInt64 32 &&& 63)) ||| ((Int32.toInt64 p3) &&& 4294967295)), .ref ou]) (rest := []) ⟨hx, hb, hml, hown, hts⟩ (c_L_pay (l := l) (D := D) (cy := cy) (base := s.heap.size) (st := stx) (K := K) (L := L) (c := c) (r := r) (o := o) (z := z) ms p1 (((Int32.toInt64 p2) <<< (Int32.toInt64 32 &&& 63)) ||| ((Int32.toInt64 p3) &&& 4294967295)) ou hk1 hk3 hst hf1 hf2) (vx_cwSW 4 hts gL_law_L_pay rfl rfl rfl (by decide +kernel) ⟨(Nat.le_of_ble_eq_true rfl), (Nat.le_of_ble_eq_true rfl)⟩) hG hC rfl hl.1 rfl (lv_room (Nat.le_of_ble_eq_true rfl)) dL_law_1740 ⟨show 600 + 16 * j + 2 ≤ 601024 by omega, show 60000 + 100 * j + 12 ≤ 7293034 by omega⟩) hC (fun rr u H locs hpost hC => ?_)
        obtain ⟨bb, r1, hm, hth, hval, hI⟩ := hS rr u hpost
        have hval := fun h : rr = 0 => (congrArg (zl u.2.2 170 ou) sb_cl0).trans (hval h)
        obtain ⟨hk1, hk2, hk3⟩ := hIK _ _ _ _ _ hI
        have hthr : f_X7_thrown u.1 z r1 mo = some (zi r1 0 mo 0) := rfl
        refine lv_istore (lv' := [(5, .int rr), (0, .ref b), (1, .ref ms), (2, .ref mo), (3, .ref ou), (4, .int (nI (5 * j)))]) hx hb dL_law_1743 hl (by decide) rfl (fun ls hl => ?_)
        refine lv_aload_n hx hb dL_law_1745 rfl (lv_at hl 3 rfl) ?_
        refine lv_aload_n hx hb dL_law_1746 rfl (lv_at hl 1 rfl) ?_
        refine lv_iload hx hb dL_law_1747 (lv_at hl 5 rfl) ?_
        refine lv_iconst (v := 1) hx hb dL_law_1749 (by decide) ?_
        refine lv_iadd hx hb dL_law_1750 ?_
        refine va_sld hx hb hX hbl hbA hC.2.2.1 hin1 dL_law_1751 ?_
        refine z_name hp1 ?_
        refine lv_aload_n hx hb dL_law_1752 rfl (lv_at hl 1 rfl) ?_
        refine lv_iload hx hb dL_law_1753 (lv_at hl 5 rfl) ?_
        refine lv_iconst (v := 2) hx hb dL_law_1755 (by decide) ?_
        refine lv_iadd hx hb dL_law_1756 ?_
        refine va_sld hx hb hX hbl hbA hC.2.2.1 hin2 dL_law_1757 ?_
        refine z_name hp2 ?_
        refine lv_i2l (v := (Int32.toInt64 p2)) hx hb dL_law_1758 rfl ?_
        refine lv_bipush (v := 32) hx hb dL_law_1759 (by decide) ?_
        refine lv_lshl (v := ((Int32.toInt64 p2) <<< (Int32.toInt64 32 &&& 63))) hx hb dL_law_1761 rfl ?_
        refine lv_aload_n hx hb dL_law_1762 rfl (lv_at hl 1 rfl) ?_
        refine lv_iload hx hb dL_law_1763 (lv_at hl 5 rfl) ?_
        refine lv_iconst (v := 3) hx hb dL_law_1765 (by decide) ?_
        refine lv_iadd hx hb dL_law_1766 ?_
        refine va_sld hx hb hX hbl hbA hC.2.2.1 hin3 dL_law_1767 ?_
        refine z_name hp3 ?_
        refine lv_i2l (v := (Int32.toInt64 p3)) hx hb dL_law_1768 rfl ?_
        refine lv_ldc2 (v := 4294967295) hx hb hown w0 dL_law_1769 ?_
        refine lv_land hx hb dL_law_1772 ?_
        refine lv_lor hx hb dL_law_1773 ?_
        refine z_cl (z_rV (As := [.int p1, .long (((Int32.toInt64 p2) <<< (Int32.toInt64 32 &&& 63)) ||| ((Int32.toInt64 p3) &&& 4294967295))]) (rest := []) ⟨hx, hb, hml, hown, hts⟩ (c_X7_pay (l := l) (D := D) (cy := cy) (base := s.heap.size) (st := stx) (K := u.1) (L := u.2.1) (c := u.2.2) (r := r) (o := o) (z := z) mo p1 (((Int32.toInt64 p2) <<< (Int32.toInt64 32 &&& 63)) ||| ((Int32.toInt64 p3) &&& 4294967295)) hk2 hm) (cwV 2 hts gL_law_X7_pay rfl rfl rfl (by decide +kernel) ⟨(Nat.le_of_ble_eq_true rfl), (Nat.le_of_ble_eq_true rfl)⟩) hG hC (zC.recv (ci := 7) (fs := _) hK hC (by rw [hk2]; decide) (by rw [hk2]; exact zc_7 cy _ _) rfl) rfl hl.1 rfl (lv_room (Nat.le_of_ble_eq_true rfl)) dL_law_1774 ⟨show 600 + 16 * j + 2 + 0 ≤ 601024 by omega, show 60000 + 100 * j + 12 + 0 ≤ 7293034 by omega⟩) hC (fun H locs hC => ?_)
        refine lv_lstore (lv' := [(6, .long bb), (5, .int rr), (0, .ref b), (1, .ref ms), (2, .ref mo), (3, .ref ou), (4, .int (nI (5 * j)))]) hx hb dL_law_1777 hl (by decide) rfl (fun ls hl => ?_)
        refine lv_aload_n hx hb dL_law_1779 rfl (lv_at hl 4 rfl) ?_
        refine z_ci (z_rV (As := []) (rest := []) ⟨hx, hb, hml, hown, hts⟩ (c_X7_thrown (l := l) (D := D) (cy := cy) (base := s.heap.size) (st := stx) (K := u.1) (L := u.2.1) (c := u.2.2) (r := r1) (o := o) (z := z) mo hk2 hthr) (cwV 0 hts gL_law_X7_thrown rfl rfl rfl (by decide +kernel) ⟨(Nat.le_of_ble_eq_true rfl), (Nat.le_of_ble_eq_true rfl)⟩) hG hC (zC.recv (ci := 7) (fs := _) hK hC (by rw [hk2]; decide) (by rw [hk2]; exact zc_7 cy _ _) rfl) rfl hl.1 rfl (lv_room (Nat.le_of_ble_eq_true rfl)) dL_law_1780 ⟨show 600 + 16 * j + 2 + 0 ≤ 601024 by omega, show 60000 + 100 * j + 12 + 0 ≤ 7293034 by omega⟩) hC (fun H locs hC => ?_)
        refine lv_iload hx hb dL_law_1783 (lv_at hl 1 rfl) ?_
        refine lv_icmp_eq (tgt := 1790) hx hb dL_law_1785 (by decide) (fun h9 => ?_) (fun h9 => absurd hth h9)
        refine lv_iload hx hb dL_law_1790 (lv_at hl 1 rfl) ?_
        refine lv_if_ne (tgt := 1806) hx hb dL_law_1792 (by decide) (fun h0 => ?_) (fun h0 => ?_)
        · refine lv_goto (tgt := 2032) hx hb dL_law_1806 (by decide) ?_
          exact NEXT u.1 u.2.1 u.2.2 r1 _ _ ls _ _ hI hC (lv_sub hl [2, 3, 4, 5, 6] rfl) (by omega) (by omega)
        · refine lv_aload_n hx hb dL_law_1795 rfl (lv_at hl 5 rfl) ?_
          refine lv_iconst (v := 0) hx hb dL_law_1796 (by decide) ?_
          refine xg_17 hx hb hK hC hk3 (by unfold vp_in; decide) dL_law_1797 ?_
          refine lv_lload hx hb dL_law_1798 (lv_at hl 0 rfl) ?_
          refine W.lcmp hx hb dL_law_1800 ?_
          refine lv_if_eq (tgt := 1806) hx hb dL_law_1801 (by decide) (fun h9 => ?_) (fun h9 => absurd (z_cmp (hval h0)) h9)
          refine lv_goto (tgt := 2032) hx hb dL_law_1806 (by decide) ?_
          exact NEXT u.1 u.2.1 u.2.2 r1 _ _ ls _ _ hI hC (lv_sub hl [2, 3, 4, 5, 6] rfl) (by omega) (by omega)
      by_cases y25 : y = 25
      · refine z_name y25.symm ?_
        refine lv_tableIn (off := 1770) (tgt := 1809) hx hb dL_law_39 (by decide) (by decide) (by decide) (by decide) ?_
        refine lv_aload_n hx hb dL_law_1809 rfl (lv_at hl 1 rfl) ?_
        refine lv_aload_n hx hb dL_law_1810 rfl (lv_at hl 0 rfl) ?_
        refine lv_iload hx hb dL_law_1811 (lv_at hl 4 rfl) ?_
        refine lv_iconst (v := 1) hx hb dL_law_1813 (by decide) ?_
        refine lv_iadd hx hb dL_law_1814 ?_
        refine va_sld hx hb hX hbl hbA hC.2.2.1 hin1 dL_law_1815 ?_
        refine z_name hp1 ?_
        refine lv_aload_n hx hb dL_law_1816 rfl (lv_at hl 0 rfl) ?_
        refine lv_iload hx hb dL_law_1817 (lv_at hl 4 rfl) ?_
        refine lv_iconst (v := 2) hx hb dL_law_1819 (by decide) ?_
        refine lv_iadd hx hb dL_law_1820 ?_
        refine va_sld hx hb hX hbl hbA hC.2.2.1 hin2 dL_law_1821 ?_
        refine z_name hp2 ?_
        refine lv_aload_n hx hb dL_law_1822 rfl (lv_at hl 3 rfl) ?_
        obtain ⟨res, hf1, hf2, hS⟩ := hS_25 j K L c r p1 p2 hj hI
        refine z_wcall (z_rW (As := [.ref ms, .int p1, .int p2, .ref ou]) (rest := []) ⟨hx, hb, hml, hown, hts⟩ (c_L_look (l := l) (D := D) (cy := cy) (base := s.heap.size) (st := stx) (K := K) (L := L) (c := c) (r := r) (o := o) (z := z) ms p1 p2 ou hk1 hk3 hst hf1 hf2) (vx_cwSW 4 hts gL_law_L_look rfl rfl rfl (by decide +kernel) ⟨(Nat.le_of_ble_eq_true rfl), (Nat.le_of_ble_eq_true rfl)⟩) hG hC rfl hl.1 rfl (lv_room (Nat.le_of_ble_eq_true rfl)) dL_law_1823 ⟨show 600 + 16 * j + 2 ≤ 601024 by omega, show 60000 + 100 * j + 12 ≤ 7293034 by omega⟩) hC (fun rr u H locs hpost hC => ?_)
        obtain ⟨bb, r1, hm, hth, hval, hI⟩ := hS rr u hpost
        have hval := fun h : rr = 0 => (congrArg (zl u.2.2 170 ou) sb_cl0).trans (hval h)
        obtain ⟨hk1, hk2, hk3⟩ := hIK _ _ _ _ _ hI
        have hthr : f_X7_thrown u.1 z r1 mo = some (zi r1 0 mo 0) := rfl
        refine lv_istore (lv' := [(5, .int rr), (0, .ref b), (1, .ref ms), (2, .ref mo), (3, .ref ou), (4, .int (nI (5 * j)))]) hx hb dL_law_1826 hl (by decide) rfl (fun ls hl => ?_)
        refine lv_aload_n hx hb dL_law_1828 rfl (lv_at hl 3 rfl) ?_
        refine lv_aload_n hx hb dL_law_1829 rfl (lv_at hl 1 rfl) ?_
        refine lv_iload hx hb dL_law_1830 (lv_at hl 5 rfl) ?_
        refine lv_iconst (v := 1) hx hb dL_law_1832 (by decide) ?_
        refine lv_iadd hx hb dL_law_1833 ?_
        refine va_sld hx hb hX hbl hbA hC.2.2.1 hin1 dL_law_1834 ?_
        refine z_name hp1 ?_
        refine lv_aload_n hx hb dL_law_1835 rfl (lv_at hl 1 rfl) ?_
        refine lv_iload hx hb dL_law_1836 (lv_at hl 5 rfl) ?_
        refine lv_iconst (v := 2) hx hb dL_law_1838 (by decide) ?_
        refine lv_iadd hx hb dL_law_1839 ?_
        refine va_sld hx hb hX hbl hbA hC.2.2.1 hin2 dL_law_1840 ?_
        refine z_name hp2 ?_
        refine z_ci (z_rV (As := [.int p1, .int p2]) (rest := []) ⟨hx, hb, hml, hown, hts⟩ (c_X7_look (l := l) (D := D) (cy := cy) (base := s.heap.size) (st := stx) (K := u.1) (L := u.2.1) (c := u.2.2) (r := r) (o := o) (z := z) mo p1 p2 hk2 hm) (cwV 2 hts gL_law_X7_look rfl rfl rfl (by decide +kernel) ⟨(Nat.le_of_ble_eq_true rfl), (Nat.le_of_ble_eq_true rfl)⟩) hG hC (zC.recv (ci := 7) (fs := _) hK hC (by rw [hk2]; decide) (by rw [hk2]; exact zc_7 cy _ _) rfl) rfl hl.1 rfl (lv_room (Nat.le_of_ble_eq_true rfl)) dL_law_1841 ⟨show 600 + 16 * j + 2 + 0 ≤ 601024 by omega, show 60000 + 100 * j + 12 + 0 ≤ 7293034 by omega⟩) hC (fun H locs hC => ?_)
        refine lv_istore (lv' := [(6, .int bb), (5, .int rr), (0, .ref b), (1, .ref ms), (2, .ref mo), (3, .ref ou), (4, .int (nI (5 * j)))]) hx hb dL_law_1844 hl (by decide) rfl (fun ls hl => ?_)
        refine lv_aload_n hx hb dL_law_1846 rfl (lv_at hl 4 rfl) ?_
        refine z_ci (z_rV (As := []) (rest := []) ⟨hx, hb, hml, hown, hts⟩ (c_X7_thrown (l := l) (D := D) (cy := cy) (base := s.heap.size) (st := stx) (K := u.1) (L := u.2.1) (c := u.2.2) (r := r1) (o := o) (z := z) mo hk2 hthr) (cwV 0 hts gL_law_X7_thrown rfl rfl rfl (by decide +kernel) ⟨(Nat.le_of_ble_eq_true rfl), (Nat.le_of_ble_eq_true rfl)⟩) hG hC (zC.recv (ci := 7) (fs := _) hK hC (by rw [hk2]; decide) (by rw [hk2]; exact zc_7 cy _ _) rfl) rfl hl.1 rfl (lv_room (Nat.le_of_ble_eq_true rfl)) dL_law_1847 ⟨show 600 + 16 * j + 2 + 0 ≤ 601024 by omega, show 60000 + 100 * j + 12 + 0 ≤ 7293034 by omega⟩) hC (fun H locs hC => ?_)
        refine lv_iload hx hb dL_law_1850 (lv_at hl 1 rfl) ?_
        refine lv_icmp_eq (tgt := 1857) hx hb dL_law_1852 (by decide) (fun h9 => ?_) (fun h9 => absurd hth h9)
        refine lv_iload hx hb dL_law_1857 (lv_at hl 1 rfl) ?_
        refine lv_if_ne (tgt := 1874) hx hb dL_law_1859 (by decide) (fun h0 => ?_) (fun h0 => ?_)
        · refine lv_goto (tgt := 2032) hx hb dL_law_1874 (by decide) ?_
          exact NEXT u.1 u.2.1 u.2.2 r1 _ _ ls _ _ hI hC (lv_sub hl [2, 3, 4, 5, 6] rfl) (by omega) (by omega)
        · refine lv_aload_n hx hb dL_law_1862 rfl (lv_at hl 5 rfl) ?_
          refine lv_iconst (v := 0) hx hb dL_law_1863 (by decide) ?_
          refine xg_17 hx hb hK hC hk3 (by unfold vp_in; decide) dL_law_1864 ?_
          refine lv_iload hx hb dL_law_1865 (lv_at hl 0 rfl) ?_
          refine lv_i2l (v := (Int32.toInt64 bb)) hx hb dL_law_1867 rfl ?_
          refine W.lcmp hx hb dL_law_1868 ?_
          refine lv_if_eq (tgt := 1874) hx hb dL_law_1869 (by decide) (fun h9 => ?_) (fun h9 => absurd (z_cmp (hval h0)) h9)
          refine lv_goto (tgt := 2032) hx hb dL_law_1874 (by decide) ?_
          exact NEXT u.1 u.2.1 u.2.2 r1 _ _ ls _ _ hI hC (lv_sub hl [2, 3, 4, 5, 6] rfl) (by omega) (by omega)
      by_cases y26 : y = 26
      · refine z_name y26.symm ?_
        refine lv_tableIn (off := 1838) (tgt := 1877) hx hb dL_law_39 (by decide) (by decide) (by decide) (by decide) ?_
        refine lv_aload_n hx hb dL_law_1877 rfl (lv_at hl 1 rfl) ?_
        refine lv_aload_n hx hb dL_law_1878 rfl (lv_at hl 0 rfl) ?_
        refine lv_iload hx hb dL_law_1879 (lv_at hl 4 rfl) ?_
        refine lv_iconst (v := 1) hx hb dL_law_1881 (by decide) ?_
        refine lv_iadd hx hb dL_law_1882 ?_
        refine va_sld hx hb hX hbl hbA hC.2.2.1 hin1 dL_law_1883 ?_
        refine z_name hp1 ?_
        refine lv_aload_n hx hb dL_law_1884 rfl (lv_at hl 3 rfl) ?_
        obtain ⟨res, hf1, hf2, hS⟩ := hS_26 j K L c r p1 hj hI
        refine z_wcall (z_rW (As := [.ref ms, .int p1, .ref ou]) (rest := []) ⟨hx, hb, hml, hown, hts⟩ (c_L_owed (l := l) (D := D) (cy := cy) (base := s.heap.size) (st := stx) (K := K) (L := L) (c := c) (r := r) (o := o) (z := z) ms p1 ou hk1 hk3 hst hf1 hf2) (vx_cwSW 3 hts gL_law_L_owed rfl rfl rfl (by decide +kernel) ⟨(Nat.le_of_ble_eq_true rfl), (Nat.le_of_ble_eq_true rfl)⟩) hG hC rfl hl.1 rfl (lv_room (Nat.le_of_ble_eq_true rfl)) dL_law_1885 ⟨show 600 + 16 * j + 1 ≤ 601024 by omega, show 60000 + 100 * j + 6 ≤ 7293034 by omega⟩) hC (fun rr u H locs hpost hC => ?_)
        obtain ⟨bb, r1, hm, hth, hval, hI⟩ := hS rr u hpost
        have hval := fun h : rr = 0 => (congrArg (zl u.2.2 170 ou) sb_cl0).trans (hval h)
        obtain ⟨hk1, hk2, hk3⟩ := hIK _ _ _ _ _ hI
        have hthr : f_X7_thrown u.1 z r1 mo = some (zi r1 0 mo 0) := rfl
        refine lv_istore (lv' := [(5, .int rr), (0, .ref b), (1, .ref ms), (2, .ref mo), (3, .ref ou), (4, .int (nI (5 * j)))]) hx hb dL_law_1888 hl (by decide) rfl (fun ls hl => ?_)
        refine lv_aload_n hx hb dL_law_1890 rfl (lv_at hl 3 rfl) ?_
        refine lv_aload_n hx hb dL_law_1891 rfl (lv_at hl 1 rfl) ?_
        refine lv_iload hx hb dL_law_1892 (lv_at hl 5 rfl) ?_
        refine lv_iconst (v := 1) hx hb dL_law_1894 (by decide) ?_
        refine lv_iadd hx hb dL_law_1895 ?_
        refine va_sld hx hb hX hbl hbA hC.2.2.1 hin1 dL_law_1896 ?_
        refine z_name hp1 ?_
        refine z_cl (z_rV (As := [.int p1]) (rest := []) ⟨hx, hb, hml, hown, hts⟩ (c_X7_owed (l := l) (D := D) (cy := cy) (base := s.heap.size) (st := stx) (K := u.1) (L := u.2.1) (c := u.2.2) (r := r) (o := o) (z := z) mo p1 hk2 hm) (cwV 1 hts gL_law_X7_owed rfl rfl rfl (by decide +kernel) ⟨(Nat.le_of_ble_eq_true rfl), (Nat.le_of_ble_eq_true rfl)⟩) hG hC (zC.recv (ci := 7) (fs := _) hK hC (by rw [hk2]; decide) (by rw [hk2]; exact zc_7 cy _ _) rfl) rfl hl.1 rfl (lv_room (Nat.le_of_ble_eq_true rfl)) dL_law_1897 ⟨show 600 + 16 * j + 1 + 0 ≤ 601024 by omega, show 60000 + 100 * j + 6 + 0 ≤ 7293034 by omega⟩) hC (fun H locs hC => ?_)
        refine lv_lstore (lv' := [(6, .long bb), (5, .int rr), (0, .ref b), (1, .ref ms), (2, .ref mo), (3, .ref ou), (4, .int (nI (5 * j)))]) hx hb dL_law_1900 hl (by decide) rfl (fun ls hl => ?_)
        refine lv_aload_n hx hb dL_law_1902 rfl (lv_at hl 4 rfl) ?_
        refine z_ci (z_rV (As := []) (rest := []) ⟨hx, hb, hml, hown, hts⟩ (c_X7_thrown (l := l) (D := D) (cy := cy) (base := s.heap.size) (st := stx) (K := u.1) (L := u.2.1) (c := u.2.2) (r := r1) (o := o) (z := z) mo hk2 hthr) (cwV 0 hts gL_law_X7_thrown rfl rfl rfl (by decide +kernel) ⟨(Nat.le_of_ble_eq_true rfl), (Nat.le_of_ble_eq_true rfl)⟩) hG hC (zC.recv (ci := 7) (fs := _) hK hC (by rw [hk2]; decide) (by rw [hk2]; exact zc_7 cy _ _) rfl) rfl hl.1 rfl (lv_room (Nat.le_of_ble_eq_true rfl)) dL_law_1903 ⟨show 600 + 16 * j + 1 + 0 ≤ 601024 by omega, show 60000 + 100 * j + 6 + 0 ≤ 7293034 by omega⟩) hC (fun H locs hC => ?_)
        refine lv_iload hx hb dL_law_1906 (lv_at hl 1 rfl) ?_
        refine lv_icmp_eq (tgt := 1913) hx hb dL_law_1908 (by decide) (fun h9 => ?_) (fun h9 => absurd hth h9)
        refine lv_iload hx hb dL_law_1913 (lv_at hl 1 rfl) ?_
        refine lv_if_ne (tgt := 1929) hx hb dL_law_1915 (by decide) (fun h0 => ?_) (fun h0 => ?_)
        · refine lv_goto (tgt := 2032) hx hb dL_law_1929 (by decide) ?_
          exact NEXT u.1 u.2.1 u.2.2 r1 _ _ ls _ _ hI hC (lv_sub hl [2, 3, 4, 5, 6] rfl) (by omega) (by omega)
        · refine lv_aload_n hx hb dL_law_1918 rfl (lv_at hl 5 rfl) ?_
          refine lv_iconst (v := 0) hx hb dL_law_1919 (by decide) ?_
          refine xg_17 hx hb hK hC hk3 (by unfold vp_in; decide) dL_law_1920 ?_
          refine lv_lload hx hb dL_law_1921 (lv_at hl 0 rfl) ?_
          refine W.lcmp hx hb dL_law_1923 ?_
          refine lv_if_eq (tgt := 1929) hx hb dL_law_1924 (by decide) (fun h9 => ?_) (fun h9 => absurd (z_cmp (hval h0)) h9)
          refine lv_goto (tgt := 2032) hx hb dL_law_1929 (by decide) ?_
          exact NEXT u.1 u.2.1 u.2.2 r1 _ _ ls _ _ hI hC (lv_sub hl [2, 3, 4, 5, 6] rfl) (by omega) (by omega)
      by_cases y27 : y = 27
      · refine z_name y27.symm ?_
        refine lv_tableIn (off := 1893) (tgt := 1932) hx hb dL_law_39 (by decide) (by decide) (by decide) (by decide) ?_
        refine lv_aload_n hx hb dL_law_1932 rfl (lv_at hl 1 rfl) ?_
        refine lv_aload_n hx hb dL_law_1933 rfl (lv_at hl 0 rfl) ?_
        refine lv_iload hx hb dL_law_1934 (lv_at hl 4 rfl) ?_
        refine lv_iconst (v := 1) hx hb dL_law_1936 (by decide) ?_
        refine lv_iadd hx hb dL_law_1937 ?_
        refine va_sld hx hb hX hbl hbA hC.2.2.1 hin1 dL_law_1938 ?_
        refine z_name hp1 ?_
        refine lv_aload_n hx hb dL_law_1939 rfl (lv_at hl 0 rfl) ?_
        refine lv_iload hx hb dL_law_1940 (lv_at hl 4 rfl) ?_
        refine lv_iconst (v := 2) hx hb dL_law_1942 (by decide) ?_
        refine lv_iadd hx hb dL_law_1943 ?_
        refine va_sld hx hb hX hbl hbA hC.2.2.1 hin2 dL_law_1944 ?_
        refine z_name hp2 ?_
        obtain ⟨rr, hf1, bb, r1, hm, hval, hI⟩ := hS_27 j K L c r p1 p2 hj hI
        refine z_ci (z_rV (As := [.int p1, .int p2]) (rest := []) ⟨hx, hb, hml, hown, hts⟩ (c_X6_stall (l := l) (D := D) (cy := cy) (base := s.heap.size) (st := stx) (K := K) (L := L) (c := c) (r := r) (o := o) (z := z) ms p1 p2 hk1 hf1) (cwV 2 hts gL_law_X6_stall rfl rfl rfl (by decide +kernel) ⟨(Nat.le_of_ble_eq_true rfl), (Nat.le_of_ble_eq_true rfl)⟩) hG hC (zC.recv (ci := 6) (fs := _) hK hC (by rw [hk1]; decide) (by rw [hk1]; exact zc_6 cy _ _) rfl) rfl hl.1 rfl (lv_room (Nat.le_of_ble_eq_true rfl)) dL_law_1945 ⟨show 600 + 16 * j + 0 + 0 ≤ 601024 by omega, show 60000 + 100 * j + 0 + 0 ≤ 7293034 by omega⟩) hC (fun H locs hC => ?_)
        refine lv_aload_n hx hb dL_law_1948 rfl (lv_at hl 2 rfl) ?_
        refine lv_aload_n hx hb dL_law_1949 rfl (lv_at hl 0 rfl) ?_
        refine lv_iload hx hb dL_law_1950 (lv_at hl 4 rfl) ?_
        refine lv_iconst (v := 1) hx hb dL_law_1952 (by decide) ?_
        refine lv_iadd hx hb dL_law_1953 ?_
        refine va_sld hx hb hX hbl hbA hC.2.2.1 hin1 dL_law_1954 ?_
        refine z_name hp1 ?_
        refine lv_aload_n hx hb dL_law_1955 rfl (lv_at hl 0 rfl) ?_
        refine lv_iload hx hb dL_law_1956 (lv_at hl 4 rfl) ?_
        refine lv_iconst (v := 2) hx hb dL_law_1958 (by decide) ?_
        refine lv_iadd hx hb dL_law_1959 ?_
        refine va_sld hx hb hX hbl hbA hC.2.2.1 hin2 dL_law_1960 ?_
        refine z_name hp2 ?_
        refine z_ci (z_rV (As := [.int p1, .int p2]) (rest := [.int rr]) ⟨hx, hb, hml, hown, hts⟩ (c_X7_stall (l := l) (D := D) (cy := cy) (base := s.heap.size) (st := stx) (K := K) (L := L) (c := c) (r := r) (o := o) (z := z) mo p1 p2 hk2 hm) (cwV 2 hts gL_law_X7_stall rfl rfl rfl (by decide +kernel) ⟨(Nat.le_of_ble_eq_true rfl), (Nat.le_of_ble_eq_true rfl)⟩) hG hC (zC.recv (ci := 7) (fs := _) hK hC (by rw [hk2]; decide) (by rw [hk2]; exact zc_7 cy _ _) rfl) rfl hl.1 rfl (lv_room (Nat.le_of_ble_eq_true rfl)) dL_law_1961 ⟨show 600 + 16 * j + 0 + 0 ≤ 601024 by omega, show 60000 + 100 * j + 0 + 0 ≤ 7293034 by omega⟩) hC (fun H locs hC => ?_)
        refine lv_icmp_eq (tgt := 2032) hx hb dL_law_1964 (by decide) (fun h9 => ?_) (fun h9 => absurd hval h9)
        exact NEXT K L c r1 _ _ ls _ _ hI hC (lv_sub hl [0, 1, 2, 3, 4] rfl) (by omega) (by omega)
      by_cases y28 : y = 28
      · refine z_name y28.symm ?_
        refine lv_tableIn (off := 1930) (tgt := 1969) hx hb dL_law_39 (by decide) (by decide) (by decide) (by decide) ?_
        refine lv_aload_n hx hb dL_law_1969 rfl (lv_at hl 1 rfl) ?_
        refine lv_aload_n hx hb dL_law_1970 rfl (lv_at hl 0 rfl) ?_
        refine lv_iload hx hb dL_law_1971 (lv_at hl 4 rfl) ?_
        refine lv_iconst (v := 1) hx hb dL_law_1973 (by decide) ?_
        refine lv_iadd hx hb dL_law_1974 ?_
        refine va_sld hx hb hX hbl hbA hC.2.2.1 hin1 dL_law_1975 ?_
        refine z_name hp1 ?_
        refine lv_aload_n hx hb dL_law_1976 rfl (lv_at hl 0 rfl) ?_
        refine lv_iload hx hb dL_law_1977 (lv_at hl 4 rfl) ?_
        refine lv_iconst (v := 2) hx hb dL_law_1979 (by decide) ?_
        refine lv_iadd hx hb dL_law_1980 ?_
        refine va_sld hx hb hX hbl hbA hC.2.2.1 hin2 dL_law_1981 ?_
        refine z_name hp2 ?_
        obtain ⟨rr, hf1, bb, r1, hm, hval, hI⟩ := hS_28 j K L c r p1 p2 hj hI
        refine z_ci (z_rV (As := [.int p1, .int p2]) (rest := []) ⟨hx, hb, hml, hown, hts⟩ (c_X6_square (l := l) (D := D) (cy := cy) (base := s.heap.size) (st := stx) (K := K) (L := L) (c := c) (r := r) (o := o) (z := z) ms p1 p2 hk1 hf1) (cwV 2 hts gL_law_X6_square rfl rfl rfl (by decide +kernel) ⟨(Nat.le_of_ble_eq_true rfl), (Nat.le_of_ble_eq_true rfl)⟩) hG hC (zC.recv (ci := 6) (fs := _) hK hC (by rw [hk1]; decide) (by rw [hk1]; exact zc_6 cy _ _) rfl) rfl hl.1 rfl (lv_room (Nat.le_of_ble_eq_true rfl)) dL_law_1982 ⟨show 600 + 16 * j + 0 + 0 ≤ 601024 by omega, show 60000 + 100 * j + 0 + 0 ≤ 7293034 by omega⟩) hC (fun H locs hC => ?_)
        refine lv_aload_n hx hb dL_law_1985 rfl (lv_at hl 2 rfl) ?_
        refine lv_aload_n hx hb dL_law_1986 rfl (lv_at hl 0 rfl) ?_
        refine lv_iload hx hb dL_law_1987 (lv_at hl 4 rfl) ?_
        refine lv_iconst (v := 1) hx hb dL_law_1989 (by decide) ?_
        refine lv_iadd hx hb dL_law_1990 ?_
        refine va_sld hx hb hX hbl hbA hC.2.2.1 hin1 dL_law_1991 ?_
        refine z_name hp1 ?_
        refine lv_aload_n hx hb dL_law_1992 rfl (lv_at hl 0 rfl) ?_
        refine lv_iload hx hb dL_law_1993 (lv_at hl 4 rfl) ?_
        refine lv_iconst (v := 2) hx hb dL_law_1995 (by decide) ?_
        refine lv_iadd hx hb dL_law_1996 ?_
        refine va_sld hx hb hX hbl hbA hC.2.2.1 hin2 dL_law_1997 ?_
        refine z_name hp2 ?_
        refine z_ci (z_rV (As := [.int p1, .int p2]) (rest := [.int rr]) ⟨hx, hb, hml, hown, hts⟩ (c_X7_square (l := l) (D := D) (cy := cy) (base := s.heap.size) (st := stx) (K := K) (L := L) (c := c) (r := r) (o := o) (z := z) mo p1 p2 hk2 hm) (cwV 2 hts gL_law_X7_square rfl rfl rfl (by decide +kernel) ⟨(Nat.le_of_ble_eq_true rfl), (Nat.le_of_ble_eq_true rfl)⟩) hG hC (zC.recv (ci := 7) (fs := _) hK hC (by rw [hk2]; decide) (by rw [hk2]; exact zc_7 cy _ _) rfl) rfl hl.1 rfl (lv_room (Nat.le_of_ble_eq_true rfl)) dL_law_1998 ⟨show 600 + 16 * j + 0 + 0 ≤ 601024 by omega, show 60000 + 100 * j + 0 + 0 ≤ 7293034 by omega⟩) hC (fun H locs hC => ?_)
        refine lv_icmp_eq (tgt := 2032) hx hb dL_law_2001 (by decide) (fun h9 => ?_) (fun h9 => absurd hval h9)
        exact NEXT K L c r1 _ _ ls _ _ hI hC (lv_sub hl [0, 1, 2, 3, 4] rfl) (by omega) (by omega)
      by_cases y29 : y = 29
      · refine z_name y29.symm ?_
        refine lv_tableIn (off := 1967) (tgt := 2006) hx hb dL_law_39 (by decide) (by decide) (by decide) (by decide) ?_
        refine lv_aload_n hx hb dL_law_2006 rfl (lv_at hl 1 rfl) ?_
        refine lv_aload_n hx hb dL_law_2007 rfl (lv_at hl 0 rfl) ?_
        refine lv_iload hx hb dL_law_2008 (lv_at hl 4 rfl) ?_
        refine lv_iconst (v := 1) hx hb dL_law_2010 (by decide) ?_
        refine lv_iadd hx hb dL_law_2011 ?_
        refine va_sld hx hb hX hbl hbA hC.2.2.1 hin1 dL_law_2012 ?_
        refine z_name hp1 ?_
        obtain ⟨rr, hf1, bb, r1, hm, hval, hI⟩ := hS_29 j K L c r p1 hj hI
        refine z_cl (z_rV (As := [.int p1]) (rest := []) ⟨hx, hb, hml, hown, hts⟩ (c_X6_count (l := l) (D := D) (cy := cy) (base := s.heap.size) (st := stx) (K := K) (L := L) (c := c) (r := r) (o := o) (z := z) ms p1 hk1 hf1) (cwV 1 hts gL_law_X6_count rfl rfl rfl (by decide +kernel) ⟨(Nat.le_of_ble_eq_true rfl), (Nat.le_of_ble_eq_true rfl)⟩) hG hC (zC.recv (ci := 6) (fs := _) hK hC (by rw [hk1]; decide) (by rw [hk1]; exact zc_6 cy _ _) rfl) rfl hl.1 rfl (lv_room (Nat.le_of_ble_eq_true rfl)) dL_law_2013 ⟨show 600 + 16 * j + 0 + 0 ≤ 601024 by omega, show 60000 + 100 * j + 0 + 0 ≤ 7293034 by omega⟩) hC (fun H locs hC => ?_)
        refine lv_aload_n hx hb dL_law_2016 rfl (lv_at hl 2 rfl) ?_
        refine lv_aload_n hx hb dL_law_2017 rfl (lv_at hl 0 rfl) ?_
        refine lv_iload hx hb dL_law_2018 (lv_at hl 4 rfl) ?_
        refine lv_iconst (v := 1) hx hb dL_law_2020 (by decide) ?_
        refine lv_iadd hx hb dL_law_2021 ?_
        refine va_sld hx hb hX hbl hbA hC.2.2.1 hin1 dL_law_2022 ?_
        refine z_name hp1 ?_
        refine z_cl (z_rV (As := [.int p1]) (rest := [.long rr]) ⟨hx, hb, hml, hown, hts⟩ (c_X7_count (l := l) (D := D) (cy := cy) (base := s.heap.size) (st := stx) (K := K) (L := L) (c := c) (r := r) (o := o) (z := z) mo p1 hk2 hm) (cwV 1 hts gL_law_X7_count rfl rfl rfl (by decide +kernel) ⟨(Nat.le_of_ble_eq_true rfl), (Nat.le_of_ble_eq_true rfl)⟩) hG hC (zC.recv (ci := 7) (fs := _) hK hC (by rw [hk2]; decide) (by rw [hk2]; exact zc_7 cy _ _) rfl) rfl hl.1 rfl (lv_room (Nat.le_of_ble_eq_true rfl)) dL_law_2023 ⟨show 600 + 16 * j + 0 + 0 ≤ 601024 by omega, show 60000 + 100 * j + 0 + 0 ≤ 7293034 by omega⟩) hC (fun H locs hC => ?_)
        refine W.lcmp hx hb dL_law_2026 ?_
        refine lv_if_eq (tgt := 2032) hx hb dL_law_2027 (by decide) (fun h9 => ?_) (fun h9 => absurd (z_cmp hval) h9)
        exact NEXT K L c r1 _ _ ls _ _ hI hC (lv_sub hl [0, 1, 2, 3, 4] rfl) (by omega) (by omega)
      refine lv_tableOut (tgt := 2032) hx hb dL_law_39 (by have q0 := z_ne (k := 0) (by decide) y0; have q1 := z_ne (k := 1) (by decide) y1; have q2 := z_ne (k := 2) (by decide) y2; have q3 := z_ne (k := 3) (by decide) y3; have q4 := z_ne (k := 4) (by decide) y4; have q5 := z_ne (k := 5) (by decide) y5; have q6 := z_ne (k := 6) (by decide) y6; have q7 := z_ne (k := 7) (by decide) y7; have q8 := z_ne (k := 8) (by decide) y8; have q9 := z_ne (k := 9) (by decide) y9; have q10 := z_ne (k := 10) (by decide) y10; have q11 := z_ne (k := 11) (by decide) y11; have q12 := z_ne (k := 12) (by decide) y12; have q13 := z_ne (k := 13) (by decide) y13; have q14 := z_ne (k := 14) (by decide) y14; have q15 := z_ne (k := 15) (by decide) y15; have q16 := z_ne (k := 16) (by decide) y16; have q17 := z_ne (k := 17) (by decide) y17; have q18 := z_ne (k := 18) (by decide) y18; have q19 := z_ne (k := 19) (by decide) y19; have q20 := z_ne (k := 20) (by decide) y20; have q21 := z_ne (k := 21) (by decide) y21; have q22 := z_ne (k := 22) (by decide) y22; have q23 := z_ne (k := 23) (by decide) y23; have q24 := z_ne (k := 24) (by decide) y24; have q25 := z_ne (k := 25) (by decide) y25; have q26 := z_ne (k := 26) (by decide) y26; have q27 := z_ne (k := 27) (by decide) y27; have q28 := z_ne (k := 28) (by decide) y28; have q29 := z_ne (k := 29) (by decide) y29; omega) (by decide) ?_
      exact NEXT K L c r _ _ ls _ _ (hI1 _ _ _ _ _ hI) hC hl (by omega) (by omega)
