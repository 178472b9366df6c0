/-! THE CLAIM OUT OF ONE WALK OF THE LAW'S BODY. Your part is whole_start (and what it stands on); all else here is the same for every law, but numbers. -/
def R_law : String := "MissionDeskLaw"
def lw_P (b : Addr) (xs : List Int32) (args : Array Value) (s : State) : Prop := args = #[.ref b] ∧ s.IntsAt b xs ∧ xs.length ≤ 6 ∧ (Jvm.Cond.and given_1 narrow_1).before args s = true
def lw_Q (_ : Array Value) (s : State) (o : Outcome) (t : State) : Prop := o = .returned (some (.int 1)) ∧ Framed s o t [] 600000 7302250
def lw_Z (below : List Frame) (a : Array Value) (s : State) : State → Prop := fun t => ∃ o, t.status = .running ∧ Ended t below o ∧ lw_Q a s o t
/-- the law's own end, with 1 on the stack, nothing written that was there before, its room as the claim has it -/
theorem lw_ret {p : Program} {l : Launch} {e : Env} {s : State} {m : MethodId} {below : List Frame} {meth : Method} {c : Code} {b : Nat} (hx : p.tables.exec = Jvm.exec) (hb : c.code = code) (hr : meth.sig.returnType = ret) (hlocks : meth.locks = false) {pc : Nat} {H : Heap} {ls : Array Slot} (hdg : decode code pc = .ok (.ireturn, 1)) : W p l e room_1 s m #[Value.ref b] below meth c H [] 600000 7302250 (lw_Z below #[Value.ref b] s) (F0 m pc ls [.int 1]) := by
  intro T hT X
  obtain ⟨fs, hret, hrun, hended, hW, hframe⟩ := X.leave (v := some (.int 1)) (hlocks := hlocks) (fun h => by rw [hr] at h; cases h)
  have hmeth' : T.vm.method? m = some meth := X.method'
  refine ⟨T.setFrames fs, ?_, .returned (some (.int 1)), hrun, hended, rfl, ⟨_, rfl⟩, hW, hframe⟩
  jvm_step X.here [X.here.top, hx, hb, hdg, hmeth', hr, ret, narrow_b1]
  (try refine ⟨rfl, ?_⟩); (try refine ⟨rfl, ?_⟩)
  first | (intro acts; rw [hret _ acts rfl rfl rfl]) | rw [hret _ _ rfl rfl rfl]
  exact Steps.refl _
/-- what holds at the law's entry: the machine, the code, the tables' words (any of lw_tbl by 'hts w (by decide +kernel)'), the script of L ints xs at the cell b, what the Statement gives of the start (any of its parts by flat_of_before) -/
def lw_At (p : Program) (s : State) (m : MethodId) (meth : Method) (c : Code) (b L : Nat) (xs : Nat → Int32) : Prop :=
  p.tables.exec = Jvm.exec ∧ c.code = code ∧ meth.sig.returnType = ret ∧ c.maxLocals = 4 ∧ s.vm.findClass R_law = some m.cls ∧ (∀ w ∈ lw_tbl, w.before #[Value.ref b] s = true) ∧ va_X b L xs s s.heap ∧ b < s.heap.size ∧ meth.locks = false ∧ (Jvm.Cond.and given_1 narrow_1).before #[Value.ref b] s = true

set_option maxRecDepth 100000 in
set_option maxHeartbeats 4000000 in
/-- THE LAW, from its entry -/
theorem whole_start {p : Program} {e : Env} {s : State} {m : MethodId} {below : List Frame} {meth : Method} {c : Code} (l : Launch) {b L : Nat} {xs : Nat → Int32} (hL : L ≤ 6) (C0 : lw_At p s m meth c b L xs) : W p l e room_1 s m #[Value.ref b] below meth c s.heap [] 0 0 (lw_Z below #[Value.ref b] s) (entryFrame m ([Value.ref b] : List Value).toArray 4) := by
  obtain ⟨hx, hb, hr, hml, hown, hts, hX, hbl, hlocks, hgv⟩ := id C0
  have htj : ∀ w ∈ jT, w.before #[Value.ref b] s = true := fun w hw => hts w (List.mem_filter.mp hw).1
  obtain ⟨c0, i0, k0⟩ := u_known (C := "MissionDesk") (T := T_0) (N := 16) (n := 16) htj in_0 (htj _ (jm 68 (by decide +kernel) rfl))
  obtain ⟨c1, i1, k1⟩ := u_known (C := "MissionDesk$Handler") (T := T_1) (N := 14) (n := 14) htj in_1 (htj _ (jm 77 (by decide +kernel) rfl))
  obtain ⟨c2, i2, k2⟩ := u_known (C := "MissionDesk$Line") (T := T_2) (N := 3) (n := 3) htj in_2 (htj _ (jm 83 (by decide +kernel) rfl))
  obtain ⟨c3, i3, k3⟩ := u_known (C := "MissionDesk$Release") (T := T_3) (N := 8) (n := 8) htj in_3 (htj _ (jm 90 (by decide +kernel) rfl))
  obtain ⟨c4, i4, k4⟩ := u_known (C := "MissionDesk$Scopes") (T := T_4) (N := 6) (n := 6) htj in_4 (htj _ (jm 96 (by decide +kernel) rfl))
  obtain ⟨c5, i5, k5⟩ := u_known (C := "MissionDesk$HeldLocks") (T := T_5) (N := 2) (n := 2) htj in_5 (htj _ (jm 123 (by decide +kernel) rfl))
  obtain ⟨c6, i6, k6⟩ := u_known (C := "MissionDesk$Turns") (T := T_6) (N := 5) (n := 5) htj in_6 (htj _ (jm 241 (by decide +kernel) rfl))
  obtain ⟨c7, i7, k7⟩ := u_known (C := "MissionDesk$Frame") (T := T_7) (N := 3) (n := 3) htj in_7 (htj _ (jm 248 (by decide +kernel) rfl))
  obtain ⟨c8, i8, k8⟩ := u_known (C := "MissionDesk$MissionArea") (T := T_8) (N := 2) (n := 2) htj in_8 (htj _ (jm 288 (by decide +kernel) rfl))
  obtain ⟨c9, i9, k9⟩ := u_known (C := "MissionDesk$Journal") (T := T_9) (N := 2) (n := 2) htj in_9 (htj _ (jm 303 (by decide +kernel) rfl))
  obtain ⟨c10, i10, k10⟩ := u_known (C := "MissionDeskModel") (T := T_10) (N := 48) (n := 48) htj in_10 (htj _ (jm 692 (by decide +kernel) rfl))
  obtain ⟨D, hKc⟩ : ∃ D : va_G, ∀ (k : Nat) (q : vw_C), vwCl[k]? = some q → u_Kn s q.1 q.2.1 q.2.2 (D.1 k) (D.2 k) := by
    refine ⟨(fun k => match k with
      | 0 => c0
      | 1 => c1
      | 2 => c2
      | 3 => c3
      | 4 => c4
      | 5 => c5
      | 6 => c6
      | 7 => c7
      | 8 => c8
      | 9 => c9
      | _ => c10, fun k => match k with
      | 0 => i0
      | 1 => i1
      | 2 => i2
      | 3 => i3
      | 4 => i4
      | 5 => i5
      | 6 => i6
      | 7 => i7
      | 8 => i8
      | 9 => i9
      | _ => i10), ?_⟩
    intro k q hq
    match k, hq with
    | 0, hq => cases hq; exact k0
    | 1, hq => cases hq; exact k1
    | 2, hq => cases hq; exact k2
    | 3, hq => cases hq; exact k3
    | 4, hq => cases hq; exact k4
    | 5, hq => cases hq; exact k5
    | 6, hq => cases hq; exact k6
    | 7, hq => cases hq; exact k7
    | 8, hq => cases hq; exact k8
    | 9, hq => cases hq; exact k9
    | 10, hq => cases hq; exact k10
    | k + 11, hq => simp [vwCl] at hq
  obtain ⟨aI, kI, mI, fI1, fI2, fI3⟩ := Cond.arrayClass_spec (htj _ AI)
  obtain ⟨aZ, kZ, mZ, fZ1, fZ2, fZ3⟩ := Cond.arrayClass_spec (htj _ AZ)
  have aoH : va_AO "MissionDesk$Handler" s := va_AO.of (hts _ (List.mem_of_getElem? (i := 76) (by decide +kernel)))
  have aoR : va_AO "MissionDesk$Release" s := va_AO.of (hts _ (List.mem_of_getElem? (i := 89) (by decide +kernel)))
  have aoF : va_AO "MissionDesk$Frame" s := va_AO.of (hts _ (List.mem_of_getElem? (i := 247) (by decide +kernel)))
  obtain ⟨mH, aH, kH, fH1, -, fH3, fH4, fH5⟩ := Cond.arrayOver_spec aoH
  obtain ⟨mR, aR, kR, fR1, -, fR3, fR4, fR5⟩ := Cond.arrayOver_spec aoR
  obtain ⟨mF, aF, kF, fF1, -, fF3, fF4, fF5⟩ := Cond.arrayOver_spec aoF
  obtain ⟨ca, hca0, hca1, hca2, hca3, hca4⟩ : ∃ ca : Nat → ClassId, ca 0 = aI ∧ ca 1 = aZ ∧ ca 2 = aH ∧ ca 3 = aR ∧ ca 4 = aF := ⟨fun k => match k with
    | 0 => aI
    | 1 => aZ
    | 2 => aH
    | 3 => aR
    | _ => aF, rfl, rfl, rfl, rfl, rfl⟩
  have hK : va_K D vwCl (k_tys ca) s := by
    refine ⟨hKc, fun k q hq => ?_⟩
    match k, hq with
    | 0, hq => cases hq; rw [hca0]; exact ⟨fun n z => ⟨fun k h => (by cases h), kI, fI2, mI, fI3⟩, fI1⟩
    | 1, hq => cases hq; rw [hca1]; exact ⟨fun n z => ⟨fun k h => (by cases h), kZ, fZ2, mZ, fZ3⟩, fZ1⟩
    | 2, hq => cases hq; rw [hca2]; exact ⟨fun n z => ⟨fun k h => (by cases h), kH, fH3, mH, fH4⟩, kH, mH, fH3, fH4, fH1, fH5⟩
    | 3, hq => cases hq; rw [hca3]; exact ⟨fun n z => ⟨fun k h => (by cases h), kR, fR3, mR, fR4⟩, kR, mR, fR3, fR4, fR1, fR5⟩
    | 4, hq => cases hq; rw [hca4]; exact ⟨fun n z => ⟨fun k h => (by cases h), kF, fF3, mF, fF4⟩, kF, mF, fF3, fF4, fF1, fF5⟩
    | k + 5, hq => simp [k_tys] at hq
  obtain ⟨zs, hzs⟩ : ∃ zs : j_Zs, zs = ([], [(b, L, xs)], [("MissionDesk", 31, ⟨"MissionDesk$MissionArea", "<init>", "()V"⟩, "MissionDesk")], ["MissionDesk$Handler", "MissionDesk$Release", "MissionDesk$Frame"]) := ⟨_, rfl⟩
  have hZ : j_Zok s.heap.size zs s := by
    subst hzs
    refine ⟨fun q hq => absurd hq List.not_mem_nil, fun q hq => ?_, fun q hq => ?_, fun C hC => ?_⟩
    · obtain rfl := List.mem_singleton.mp hq
      obtain ⟨scr, h1, h2, h3, h4, h5⟩ := hX
      exact ⟨scr, h1, h2, h3, by rw [h4]; exact Nat.le_refl _, by rw [h4], h5, Nat.not_le.mpr hbl⟩
    · obtain rfl := List.mem_singleton.mp hq
      exact va_Nw.of rfl (hts (.methodLinkNest "MissionDesk" 31 ⟨"MissionDesk$MissionArea", "<init>", "()V"⟩ "MissionDesk") (List.mem_of_getElem? (i := 289) (by decide +kernel)))
    · rcases List.mem_cons.mp hC with rfl | hC
      · exact aoH
      · rcases List.mem_cons.mp hC with rfl | hC
        · exact aoR
        · obtain rfl := List.mem_singleton.mp hC
          exact aoF
  have X : j_X (p, l, e, room_1, s, m, #[Value.ref b], below, meth, c, lw_Z below #[Value.ref b] s, s.heap.size, 0) (k_G D ca s.heap.size zs) (Y_Law meth.name) 6 352 3449 :=
    ⟨hx, hb, hr, hml, hlocks, rfl, hown, htj, tbl_good, ⟨hK, hZ, Nat.le_refl _⟩, rfl, by decide, by decide, by decide, by decide⟩
  have B : p_B (p, l, e, room_1, s, m, #[Value.ref b], below, meth, c, lw_Z below #[Value.ref b] s, s.heap.size, 0) s.heap.size 0 0 := fun _ _ => ⟨rfl, rfl⟩
  have hV := LW_start X B (b := b) (L := L) (xs := xs) (by rw [hzs]; exact List.mem_singleton.mpr rfl) hL (by rw [hzs]; simp) (by rw [hzs]; simp) (by rw [hzs]; simp) (by rw [hzs]; exact List.mem_singleton.mpr rfl) (fun lv s1 => by
    intro H locs ls cells slots hH hS hLs hc hs
    have hc : cells + s.heap.size = s.heap.size + 352 := hc
    have hs : slots + 0 = 3449 := hs
    refine W.widen (k := 600000) (n := 7302250) (by omega) (by omega) ?_
    refine va_forget (fun q hq => hS.2.2 q hq) ?_
    exact lw_ret hx hb hr hlocks d_Law_law_573)
  rw [lg_entry_eq]
  exact hV s.heap [] _ 0 0 ⟨rfl, fun a e h => by
    have h2 : p_lay ca s.heap.size 0 (fun _ _ _ => 0) a = none := if_pos (by omega)
    have h3 : p_lay ca s.heap.size 0 (fun _ _ _ => 0) a = some e := h
    rw [h2] at h3
    cases h3⟩ va_S.rf (lv_entry [Value.ref b] (Nat.le_of_ble_eq_true rfl)) (Nat.zero_add _) rfl
set_option maxHeartbeats 4000000 in
theorem lw_walk (l : Launch) (b : Addr) (xs : List Int32) : MetFree l x (headSpec (Jvm.Cond.code x code maxLocals ret :: tables_1) room_1) (lw_P b xs) (fun _ _ _ _ _ => True) lw_Q := by
  refine MetFree.of_bodyS (code := code) (maxLocals := maxLocals) (ret := ret) (by decide) ?_ ?_
  · intro args s m h hn
    obtain ⟨meth, c, h1, h2, h3, h4, h5, h6, -, -⟩ := Cond.code_spec hn (atoms_spec (ws := Jvm.Cond.code x code maxLocals ret :: tables_1) h _ List.mem_cons_self)
    exact ⟨meth, c, h1, h2, h3, h4, h5, h6⟩
  · intro p e s m args below meth c s₁ B hml0 hP _
    obtain ⟨rfl, hx, hbd, hgv⟩ := hP
    obtain ⟨scr, harrAt, hlist, hof, hsmall⟩ := hx
    obtain ⟨hcb, hkn, -, -⟩ := State.arrayAt?_spec harrAt
    have hown : s.vm.findClass R_law = some m.cls := findClass_of_methodNamed B.named
    have hts0 : ∀ c ∈ (Jvm.Cond.code x code maxLocals ret :: tables_1), c.before #[Value.ref b] s = true := atoms_spec (ws := Jvm.Cond.code x code maxLocals ret :: tables_1) B.pre
    have hts : ∀ w ∈ lw_tbl, w.before #[Value.ref b] s = true := k2_hts_sels lw_privs (fun w hw => hts0 w (List.mem_cons_of_mem _ hw)) lw_privs_ok
    have hml : c.maxLocals = 4 := B.maxLocals_eq (hts0 _ List.mem_cons_self)
    have X₀ : Stand p l e room_1 s m #[Value.ref b] below meth c s₁ [] 0 0 := Stand.of_body B
    have hh0 : s₁.heap = s.heap := by rw [B.state]; rfl
    have hsz : scr.slots.size = xs.length := by rw [← Array.length_toList, hlist, List.length_map]
    have hval : ∀ j : Nat, j < xs.length → scr.slots[j]? = some (.int (xs.getD j 0)) := fun j hj => by
      rw [← Array.getElem?_toList, hlist]
      simp [hj]
    have hbl : b < s.heap.size := (Array.getElem?_eq_some_iff.mp hcb).1
    have hX : va_X b xs.length (fun j => xs.getD j 0) s s.heap := ⟨scr, hcb, hof, hkn, hsz, hval⟩
    have K : W p l e room_1 s m #[Value.ref b] below meth c s₁.heap [] 0 0 (lw_Z below #[Value.ref b] s) (entryFrame m ([Value.ref b] : List Value).toArray 4) := by
      rw [hh0]
      exact whole_start l hbd ⟨B.exec, B.bytes, B.returns, hml, hown, hts, hX, hbl, B.notSynchronized, hgv⟩
    obtain ⟨t, a1, o, b1, b2, b3⟩ := K s₁ rfl X₀
    exact ⟨t, o, a1, b1, b2, b3⟩
theorem lw_pre_spec {args : Array Value} {s : State} (h : (Jvm.Cond.and given_1 narrow_1).before args s = true) (hr : rest_1_c.before args s = true) : ∃ (b : Addr) (xs : List Int32), lw_P b xs args s := by
  have hs := flat_of_before _ h
  have hq := flat_of_before _ hr
  have hc : (Cond.count 1).before args s = true := hs _ (by decide +kernel)
  have harr : (Cond.arrayOf (.arg 0) .int).before args s = true := hs _ (by decide +kernel)
  have hle : (Cond.le (.length (.arg 0)) (.int 6)).before args s = true := hs _ (by decide +kernel)
  have hlen : (Cond.isInt (.length (.arg 0))).before args s = true := hq _ (by decide +kernel)
  have hall : (Cond.all (.arg 0) (.isInt (.elem (.arg 0) (.index 0)))).before args s = true := hq _ (by decide +kernel)
  obtain ⟨b, xs, hb, hx⟩ := State.ints_of_pre rfl harr hlen hall
  have hsm : xs.length < 2 ^ 31 := hx.choose_spec.2.2.2
  have hev : (Term.length (.arg 0)).eval args s none [] s = some (.int xs.length.toInt32) := hx.length_eval hb
  have hv := Cond.le_ints hev (show (Term.int 6).eval args s none [] s = some (.int 6) from rfl)
  have hd : xs.length.toInt32 ≤ 6 := by
    simpa [Cond.before, Cond.holds, hv] using hle
  have hN : xs.length ≤ 6 := (Int32.ofNat_le_ofNat hsm (by decide)).mp (show Int32.ofNat xs.length ≤ Int32.ofNat 6 from hd)
  exact ⟨b, xs, Cond.one_arg hc (show args[0]? = some (.ref b) from hb), hx, hN, h⟩
theorem lw_comes (l : Launch) : Comes l x (Jvm.Cond.code x code maxLocals ret :: tables_1) room_1 (fun tb e args s => Calls_1 tb e args s ∧ rest_1 tb e args s ∧ Pre_1 tb e args s)
    (fun _ _ args s o t => lw_Q args s o t) := by
  intro p e ha hc hk s m args below hf hfit hheap happ hpre
  obtain ⟨b, xs, hP⟩ := lw_pre_spec hpre.2.2 hpre.2.1
  obtain ⟨k, o, h1, h2, h3, hQ⟩ := lw_walk l b xs p e ha hc hk s m args below hf ((Spec.applies_iff_loose hf).mp happ).1 hP trivial
  exact ⟨k, o, h1, h2, h3, hQ⟩
theorem lw_frame {s t : State} {o : Outcome} {args : Array Value} (h : Framed s o t [] 600000 7302250) :
    Framed s o t (fieldLocs frame_1_writes args s ++ arrayLocs frame_1_arrays args s ++ staticLocs frame_1_statics s) 600000 7302250 := h
theorem lw_limb (L : Cond) (hL : ∀ (args : Array Value) (s t : State), L.after args s (.returned (some (.int 1))) t = true) :
    ArmFor flags0 classFile x code maxLocals ret World_1 tables_1 room_1 Calls_1 rest_1 Pre_1
      (fun tb e a s o t => postC L tb e a s o t ∧ Framed s o t (fieldLocs frame_1_writes a s ++ arrayLocs frame_1_arrays a s ++ staticLocs frame_1_statics s) 600000 7302250) := by
  intro l _ _ _ p e ha hc hk s m args below hf hfit hheap happ hpre
  obtain ⟨k, o, h1, h2, h3, rfl, hF⟩ := lw_comes l p e ha hc hk s m args below hf hfit hheap happ hpre
  exact ⟨k, _, h1, h2, h3, hL args s _, lw_frame hF⟩
theorem i_vc : Claimed_1_1 ∧ Claimed_1_2 := ⟨lw_limb limb_1_1 (fun args s t => by simp [limb_1_1, Cond.after, Cond.holds, Cond.value]), lw_limb limb_1_2 (fun args s t => Cond.after_iff.mpr (by
  first | (rw [show limb_1_2 = Cond.eq .result (.int 1) from rfl, Cond.eq_ints (x := 1) (y := 1) rfl rfl]; simp; done) | (simp [limb_1_2, Cond.value, Term.eval]; done)))⟩


