/-! My own layer over the kit: 'j_V K G Y pc lv st M': the body of the method Y, now at pc with locals lv, operands st and memory M, comes to its end.
K is the machine around the body, G what is fixed for the whole claim: words, classes, array classes, where our cells begin, static arrays. M: heap's size, slots made, the cells that are ours. -/
abbrev j_M : Type := Nat × Nat × (Nat → Option va_E)
abbrev j_Y : Type := MethodName × ByteArray × Nat × Option FieldType
abbrev j_Zs : Type := List ((String × String × String) × Nat) × List (Nat × Nat × (Nat → Int32)) × List (String × Nat × MethodName × String) × List String
abbrev j_G : Type := List Cond × va_G × List vw_C × List (ClassId × FieldType) × Nat × j_Zs
abbrev j_K : Type := Program × Launch × Env × Room × State × MethodId × Array Value × List Frame × Method × Code × (State → Prop) × Nat × Nat
abbrev j_A (z : Nat) : Nat → Prop := fun q => z ≤ q
def j_heap (D : va_G) (cl : List vw_C) (z : Nat) (M : j_M) (H : Heap) : Prop := H.size = M.1 ∧ ∀ (a : Nat) (e : va_E), M.2.2 a = some e → z ≤ a ∧ va_at D cl (a, e) H
def j_up (f : Nat → Option va_E) (a : Nat) (e : va_E) : Nat → Option va_E := fun q => if q = a then some e else f q
def j_Zok (z : Nat) (zs : j_Zs) (U : State) : Prop := (∀ q ∈ zs.1, va_Z q.1.1 q.1.2.1 q.1.2.2 (.ref q.2) (j_A z) U U.heap) ∧ (∀ q ∈ zs.2.1, va_T .int q.1 q.2.1 (fun j => .int (q.2.2 j)) (j_A z) U U.heap) ∧ (∀ q ∈ zs.2.2.1, va_Nw (.methodLinkNest q.1 q.2.1 q.2.2.1 q.2.2.2) U) ∧ ∀ C ∈ zs.2.2.2, va_AO C U
def j_E (D : va_G) (cl : List vw_C) (tys : List (ClassId × FieldType)) (z : Nat) (zs : j_Zs) (U : State) : Prop := va_K D cl tys U ∧ j_Zok z zs U ∧ z ≤ U.heap.size
def j_good (T : List Cond) : Prop := ∀ w ∈ T, (w.onTables && w.keeps) = true ∨ ∃ ty, w = .arrayClass ty
def j_rm (d mc ms : Nat) : Room := { frames := d, cells := mc, slots := ms, locals := 32 * d }
def j_Qc (D : va_G) (cl : List vw_C) (z t0 s0 mc ms : Nat) (Q : Option Value → j_M → Prop) : Array Value → State → Outcome → State → Prop := fun _ st oc t =>
  (∃ (r : Option Value) (M1 : j_M), oc = .returned r ∧ Q r M1 ∧ M1.1 = t0 + mc ∧ M1.2.1 = s0 + ms ∧ j_heap D cl z M1 t.heap) ∧ va_F (j_A z) st t
def j_X (K : j_K) (G : j_G) (Y : j_Y) (d mc ms : Nat) : Prop := match K, G with
  | (p, _, _, R, s, m, args, _, meth, c, _, t0, _), (T, D, cl, tys, z, zs) =>
    p.tables.exec = Jvm.exec ∧ c.code = Y.2.1 ∧ meth.sig.returnType = Y.2.2.2 ∧ c.maxLocals = Y.2.2.1 ∧ meth.locks = false ∧ meth.name = Y.1.name ∧ s.vm.findClass Y.1.cls = some m.cls ∧
    (∀ w ∈ T, w.before args s = true) ∧ j_good T ∧ j_E D cl tys z zs s ∧ s.heap.size = t0 ∧ d ≤ R.frames ∧ 32 * d ≤ R.locals ∧ mc ≤ R.cells ∧ ms ≤ R.slots
def j_V (K : j_K) (G : j_G) (Y : j_Y) (pc : Nat) (lv : List (Nat × Value)) (st : List Value) (M : j_M) : Prop := match K, G with
  | (p, l, e, R, s, m, args, below, meth, c, Qs, t0, s0), (_, D, cl, _, z, _) =>
    ∀ (H : Heap) (locs : List Loc) (ls : Array Slot) (cells slots : Nat), j_heap D cl z M H → va_S (j_A z) s.heap H locs → lv_has ls Y.2.2.1 lv → cells + t0 = M.1 → slots + s0 = M.2.1 →
      W p l e R s m args below meth c H locs cells slots Qs (F0 m pc ls st)
/-- K's end is the contract's -/
def j_R (K : j_K) (G : j_G) (M0 : j_M) (mc ms : Nat) (Q : Option Value → j_M → Prop) : Prop := match K, G with
  | (_, _, _, _, s, _, args, below, _, _, Qs, t0, s0), (_, D, cl, _, z, _) => Qs = MQ below (j_Qc D cl z M0.1 M0.2.1 mc ms Q) args s mc ms (j_A z) ∧ t0 = M0.1 ∧ s0 = M0.2.1
def j_S (K : j_K) (M0 : j_M) : Prop := match K with
  | (_, _, _, _, _, _, _, _, _, _, _, t0, s0) => t0 = M0.1 ∧ s0 = M0.2.1
/-- the contract of a method: from memory M0 with the arguments av it returns, Q of its answer and memory -/
def j_C (l : Launch) (G : j_G) (Y : j_Y) (d : Nat) (av : List Value) (M0 : j_M) (mc ms : Nat) (Q : Option Value → j_M → Prop) : Prop := match G with
  | (T, D, cl, tys, z, zs) => Met l Y.1 (Cond.code Y.1 Y.2.1 Y.2.2.1 Y.2.2.2 :: T) (j_rm d mc ms) (va_Pc av (fun U => j_E D cl tys z zs U ∧ j_heap D cl z M0 U.heap)) (j_Qc D cl z M0.1 M0.2.1 mc ms Q) mc ms (j_A z)
def j_ref : Value → Bool
  | .null => true
  | .ref _ => true
  | _ => false
def j_get : List (Nat × Value) → Nat → Option Value
  | [], _ => none
  | (j, v) :: r, i => match Nat.beq j i with
    | true => some v
    | false => j_get r i
theorem j_get_mem {i : Nat} {v : Value} : ∀ {lv : List (Nat × Value)}, j_get lv i = some v → (i, v) ∈ lv
  | [], h => by cases h
  | (j, w) :: r, h => by
    unfold j_get at h
    cases hb : Nat.beq j i with
    | true =>
      rw [hb] at h
      cases h
      cases Nat.eq_of_beq_eq_true hb
      exact List.mem_cons_self
    | false =>
      rw [hb] at h
      exact List.mem_cons_of_mem _ (j_get_mem h)
theorem j_at {ls : Array Slot} {nL : Nat} {lv : List (Nat × Value)} {i : Nat} {v : Value} (h : lv_has ls nL lv) (hg : j_get lv i = some v) : ls[i]? = some (.val v) := h.2.2 (i, v) (j_get_mem hg)
theorem j_one {D : va_G} {cl : List vw_C} {z : Nat} {M : j_M} {H : Heap} {a : Nat} {e : va_E} (h : j_heap D cl z M H) (ha : M.2.2 a = some e) : va_P D cl [(a, e)] H := by
  intro k q hq
  cases k with
  | zero => cases hq; exact (h.2 a e ha).2
  | succ k => simp at hq
theorem j_heap_put {D : va_G} {cl : List vw_C} {z : Nat} {M : j_M} {H H1 : Heap} {a : Nat} {e : va_E} (h : j_heap D cl z M H) (hz : z ≤ a) (h1 : va_at D cl (a, e) H1) (hs : H1.size = H.size) (ho : ∀ q : Nat, q ≠ a → H1[q]? = H[q]?) : j_heap D cl z (M.1, M.2.1, j_up M.2.2 a e) H1 := by
  refine ⟨hs.trans h.1, fun q x hx => ?_⟩
  by_cases hq : q = a
  · subst hq
    have hx : (if q = q then some e else M.2.2 q) = some x := hx
    rw [if_pos rfl] at hx
    cases hx
    exact ⟨hz, h1⟩
  · have hx : (if q = a then some e else M.2.2 q) = some x := hx
    rw [if_neg hq] at hx
    exact ⟨(h.2 q x hx).1, (h.2 q x hx).2.kept (ho q hq)⟩
theorem j_heap_new {D : va_G} {cl : List vw_C} {z n : Nat} {M : j_M} {H H1 : Heap} {e : va_E} (h : j_heap D cl z M H) (hz : z ≤ H.size) (h1 : va_at D cl (M.1, e) H1) (hs : H1.size = H.size + 1) (ho : ∀ q : Nat, q < H.size → H1[q]? = H[q]?) : j_heap D cl z (M.1 + 1, M.2.1 + n, j_up M.2.2 M.1 e) H1 := by
  refine ⟨by rw [hs, h.1], fun q x hx => ?_⟩
  by_cases hq : q = M.1
  · subst hq
    have hx : (if M.1 = M.1 then some e else M.2.2 M.1) = some x := hx
    rw [if_pos rfl] at hx
    cases hx
    exact ⟨by rw [← h.1]; exact hz, h1⟩
  · have hx : (if q = M.1 then some e else M.2.2 q) = some x := hx
    rw [if_neg hq] at hx
    have h2 := h.2 q x hx
    exact ⟨h2.1, h2.2.kept (ho q h2.2.lt)⟩
theorem j_E_moved {D : va_G} {cl : List vw_C} {tys : List (ClassId × FieldType)} {z : Nat} {zs : j_Zs} {u U : State} (h : j_E D cl tys z zs u) (hvm : u.vm.Alike U.vm) (hW : u.WarmedH U.vm ∨ u.vm = U.vm) (hz : z ≤ U.heap.size) (ho : ∀ q : Nat, q < u.heap.size → ¬ z ≤ q → U.heap[q]? = u.heap[q]?) : j_E D cl tys z zs U := by
  obtain ⟨h1, ⟨h2, h3, h5, h6⟩, h4⟩ := h
  exact ⟨va_K.moved hvm h1, ⟨fun q hq => ((h2 q hq).moved hvm).kept ho, fun q hq => ((h3 q hq).moved hvm).kept ho, fun q hq => hW.elim (fun hW => va_Nw.warmM hW (h5 q hq)) (fun e => va_Nw.same rfl e (h5 q hq)), fun C hC => (h6 C hC).moved hvm⟩, hz⟩

theorem v_iconst {K : j_K} {G : j_G} {Y : j_Y} {d mc ms : Nat} (X : j_X K G Y d mc ms) {pc : Nat} {lv : List (Nat × Value)} {st : List Value} {M : j_M} {n : Int} {v : Int32} (hd : decode Y.2.1 pc = .ok (.iconst n, 1)) (hv : Int32.ofInt n = v) (k : j_V K G Y (pc + 1) lv (.int v :: st) M) : j_V K G Y pc lv st M := by
  obtain ⟨p, l, e, R, s, m, args, below, meth, c, Qs, t0, s0⟩ := K
  obtain ⟨T, D, cl, tys, z, zs⟩ := G
  obtain ⟨hx, hb, hr, hml, hnl, hnm, hown, hts, hgd, hE, h0, hrf, hrl, hrc, hrs⟩ := X
  intro H locs ls cells slots hH hS hL hc hs
  exact lv_iconst hx hb hd hv (k H locs ls cells slots hH hS hL hc hs)
theorem v_bipush {K : j_K} {G : j_G} {Y : j_Y} {d mc ms : Nat} (X : j_X K G Y d mc ms) {pc : Nat} {lv : List (Nat × Value)} {st : List Value} {M : j_M} {n : Int} {v : Int32} (hd : decode Y.2.1 pc = .ok (.bipush n, 2)) (hv : (Int8.ofInt n).toInt32 = v) (k : j_V K G Y (pc + 2) lv (.int v :: st) M) : j_V K G Y pc lv st M := by
  obtain ⟨p, l, e, R, s, m, args, below, meth, c, Qs, t0, s0⟩ := K
  obtain ⟨T, D, cl, tys, z, zs⟩ := G
  obtain ⟨hx, hb, hr, hml, hnl, hnm, hown, hts, hgd, hE, h0, hrf, hrl, hrc, hrs⟩ := X
  intro H locs ls cells slots hH hS hL hc hs
  exact lv_bipush hx hb hd hv (k H locs ls cells slots hH hS hL hc hs)
theorem v_sipush {K : j_K} {G : j_G} {Y : j_Y} {d mc ms : Nat} (X : j_X K G Y d mc ms) {pc : Nat} {lv : List (Nat × Value)} {st : List Value} {M : j_M} {n : Int} {v : Int32} (hd : decode Y.2.1 pc = .ok (.sipush n, 3)) (hv : (Int16.ofInt n).toInt32 = v) (k : j_V K G Y (pc + 3) lv (.int v :: st) M) : j_V K G Y pc lv st M := by
  obtain ⟨p, l, e, R, s, m, args, below, meth, c, Qs, t0, s0⟩ := K
  obtain ⟨T, D, cl, tys, z, zs⟩ := G
  obtain ⟨hx, hb, hr, hml, hnl, hnm, hown, hts, hgd, hE, h0, hrf, hrl, hrc, hrs⟩ := X
  intro H locs ls cells slots hH hS hL hc hs
  exact lv_sipush hx hb hd hv (k H locs ls cells slots hH hS hL hc hs)
theorem v_null {K : j_K} {G : j_G} {Y : j_Y} {d mc ms : Nat} (X : j_X K G Y d mc ms) {pc : Nat} {lv : List (Nat × Value)} {st : List Value} {M : j_M} (hd : decode Y.2.1 pc = .ok (.aconst_null, 1)) (k : j_V K G Y (pc + 1) lv (.null :: st) M) : j_V K G Y pc lv st M := by
  obtain ⟨p, l, e, R, s, m, args, below, meth, c, Qs, t0, s0⟩ := K
  obtain ⟨T, D, cl, tys, z, zs⟩ := G
  obtain ⟨hx, hb, hr, hml, hnl, hnm, hown, hts, hgd, hE, h0, hrf, hrl, hrc, hrs⟩ := X
  intro H locs ls cells slots hH hS hL hc hs
  exact lv_null hx hb hd (k H locs ls cells slots hH hS hL hc hs)
theorem v_iload_n {K : j_K} {G : j_G} {Y : j_Y} {d mc ms : Nat} (X : j_X K G Y d mc ms) {pc : Nat} {lv : List (Nat × Value)} {st : List Value} {M : j_M} {i : Fin 4} {x : Int32} (hd : decode Y.2.1 pc = .ok (.iload_n i, 1)) (hl : j_get lv i.val = some (.int x)) (k : j_V K G Y (pc + 1) lv (.int x :: st) M) : j_V K G Y pc lv st M := by
  obtain ⟨p, l, e, R, s, m, args, below, meth, c, Qs, t0, s0⟩ := K
  obtain ⟨T, D, cl, tys, z, zs⟩ := G
  obtain ⟨hx, hb, hr, hml, hnl, hnm, hown, hts, hgd, hE, h0, hrf, hrl, hrc, hrs⟩ := X
  intro H locs ls cells slots hH hS hL hc hs
  exact lv_iload_n hx hb hd rfl (j_at hL hl) (k H locs ls cells slots hH hS hL hc hs)
theorem v_iload {K : j_K} {G : j_G} {Y : j_Y} {d mc ms : Nat} (X : j_X K G Y d mc ms) {pc : Nat} {lv : List (Nat × Value)} {st : List Value} {M : j_M} {i : Nat} {x : Int32} (hd : decode Y.2.1 pc = .ok (.iload i, 2)) (hl : j_get lv i = some (.int x)) (k : j_V K G Y (pc + 2) lv (.int x :: st) M) : j_V K G Y pc lv st M := by
  obtain ⟨p, l, e, R, s, m, args, below, meth, c, Qs, t0, s0⟩ := K
  obtain ⟨T, D, cl, tys, z, zs⟩ := G
  obtain ⟨hx, hb, hr, hml, hnl, hnm, hown, hts, hgd, hE, h0, hrf, hrl, hrc, hrs⟩ := X
  intro H locs ls cells slots hH hS hL hc hs
  exact lv_iload hx hb hd (j_at hL hl) (k H locs ls cells slots hH hS hL hc hs)
theorem v_aload_n {K : j_K} {G : j_G} {Y : j_Y} {d mc ms : Nat} (X : j_X K G Y d mc ms) {pc : Nat} {lv : List (Nat × Value)} {st : List Value} {M : j_M} {i : Fin 4} {v : Value} (hd : decode Y.2.1 pc = .ok (.aload_n i, 1)) (hl : j_get lv i.val = some v) (hv : j_ref v = true) (k : j_V K G Y (pc + 1) lv (v :: st) M) : j_V K G Y pc lv st M := by
  obtain ⟨p, l, e, R, s, m, args, below, meth, c, Qs, t0, s0⟩ := K
  obtain ⟨T, D, cl, tys, z, zs⟩ := G
  obtain ⟨hx, hb, hr, hml, hnl, hnm, hown, hts, hgd, hE, h0, hrf, hrl, hrc, hrs⟩ := X
  intro H locs ls cells slots hH hS hL hc hs
  cases v with
  | null => exact lv_aload_nN hx hb hd rfl (j_at hL hl) (k H locs ls cells slots hH hS hL hc hs)
  | ref a => exact lv_aload_n hx hb hd rfl (j_at hL hl) (k H locs ls cells slots hH hS hL hc hs)
  | _ => cases hv
theorem v_aload {K : j_K} {G : j_G} {Y : j_Y} {d mc ms : Nat} (X : j_X K G Y d mc ms) {pc : Nat} {lv : List (Nat × Value)} {st : List Value} {M : j_M} {i : Nat} {v : Value} (hd : decode Y.2.1 pc = .ok (.aload i, 2)) (hl : j_get lv i = some v) (hv : j_ref v = true) (k : j_V K G Y (pc + 2) lv (v :: st) M) : j_V K G Y pc lv st M := by
  obtain ⟨p, l, e, R, s, m, args, below, meth, c, Qs, t0, s0⟩ := K
  obtain ⟨T, D, cl, tys, z, zs⟩ := G
  obtain ⟨hx, hb, hr, hml, hnl, hnm, hown, hts, hgd, hE, h0, hrf, hrl, hrc, hrs⟩ := X
  intro H locs ls cells slots hH hS hL hc hs
  cases v with
  | null => exact lv_aloadN hx hb hd (j_at hL hl) (k H locs ls cells slots hH hS hL hc hs)
  | ref a => exact lv_aload hx hb hd (j_at hL hl) (k H locs ls cells slots hH hS hL hc hs)
  | _ => cases hv
theorem v_istore_n {K : j_K} {G : j_G} {Y : j_Y} {d mc ms : Nat} (X : j_X K G Y d mc ms) {pc : Nat} {lv : List (Nat × Value)} {st : List Value} {M : j_M} {i : Fin 4} {x : Int32} (lv' : List (Nat × Value)) (hd : decode Y.2.1 pc = .ok (.istore_n i, 1)) (hn : i.val < Y.2.2.1) (hl : (i.val, Value.int x) :: lv.filter (fun q => !(q.1 == i.val) && !(q.1 + 1 == i.val && q.2.category == 2)) = lv') (k : j_V K G Y (pc + 1) lv' st M) : j_V K G Y pc lv (.int x :: st) M := by
  obtain ⟨p, l, e, R, s, m, args, below, meth, c, Qs, t0, s0⟩ := K
  obtain ⟨T, D, cl, tys, z, zs⟩ := G
  obtain ⟨hx, hb, hr, hml, hnl, hnm, hown, hts, hgd, hE, h0, hrf, hrl, hrc, hrs⟩ := X
  intro H locs ls cells slots hH hS hL hc hs
  exact lv_istore_n hx hb hd rfl hL hn hl (fun ls' hL' => k H locs ls' cells slots hH hS hL' hc hs)
theorem v_istore {K : j_K} {G : j_G} {Y : j_Y} {d mc ms : Nat} (X : j_X K G Y d mc ms) {pc : Nat} {lv : List (Nat × Value)} {st : List Value} {M : j_M} {i : Nat} {x : Int32} (lv' : List (Nat × Value)) (hd : decode Y.2.1 pc = .ok (.istore i, 2)) (hn : i < Y.2.2.1) (hl : (i, Value.int x) :: lv.filter (fun q => !(q.1 == i) && !(q.1 + 1 == i && q.2.category == 2)) = lv') (k : j_V K G Y (pc + 2) lv' st M) : j_V K G Y pc lv (.int x :: st) M := by
  obtain ⟨p, l, e, R, s, m, args, below, meth, c, Qs, t0, s0⟩ := K
  obtain ⟨T, D, cl, tys, z, zs⟩ := G
  obtain ⟨hx, hb, hr, hml, hnl, hnm, hown, hts, hgd, hE, h0, hrf, hrl, hrc, hrs⟩ := X
  intro H locs ls cells slots hH hS hL hc hs
  exact lv_istore hx hb hd hL hn hl (fun ls' hL' => k H locs ls' cells slots hH hS hL' hc hs)
theorem v_astore_n {K : j_K} {G : j_G} {Y : j_Y} {d mc ms : Nat} (X : j_X K G Y d mc ms) {pc : Nat} {lv : List (Nat × Value)} {st : List Value} {M : j_M} {i : Fin 4} {v : Value} (lv' : List (Nat × Value)) (hd : decode Y.2.1 pc = .ok (.astore_n i, 1)) (hv : j_ref v = true) (hn : i.val < Y.2.2.1) (hl : (i.val, v) :: lv.filter (fun q => !(q.1 == i.val) && !(q.1 + 1 == i.val && q.2.category == 2)) = lv') (k : j_V K G Y (pc + 1) lv' st M) : j_V K G Y pc lv (v :: st) M := by
  obtain ⟨p, l, e, R, s, m, args, below, meth, c, Qs, t0, s0⟩ := K
  obtain ⟨T, D, cl, tys, z, zs⟩ := G
  obtain ⟨hx, hb, hr, hml, hnl, hnm, hown, hts, hgd, hE, h0, hrf, hrl, hrc, hrs⟩ := X
  intro H locs ls cells slots hH hS hL hc hs
  cases v with
  | null => exact lv_astore_nN hx hb hd rfl hL hn hl (fun ls' hL' => k H locs ls' cells slots hH hS hL' hc hs)
  | ref a => exact lv_astore_n hx hb hd rfl hL hn hl (fun ls' hL' => k H locs ls' cells slots hH hS hL' hc hs)
  | _ => cases hv
theorem v_astore {K : j_K} {G : j_G} {Y : j_Y} {d mc ms : Nat} (X : j_X K G Y d mc ms) {pc : Nat} {lv : List (Nat × Value)} {st : List Value} {M : j_M} {i : Nat} {v : Value} (lv' : List (Nat × Value)) (hd : decode Y.2.1 pc = .ok (.astore i, 2)) (hv : j_ref v = true) (hn : i < Y.2.2.1) (hl : (i, v) :: lv.filter (fun q => !(q.1 == i) && !(q.1 + 1 == i && q.2.category == 2)) = lv') (k : j_V K G Y (pc + 2) lv' st M) : j_V K G Y pc lv (v :: st) M := by
  obtain ⟨p, l, e, R, s, m, args, below, meth, c, Qs, t0, s0⟩ := K
  obtain ⟨T, D, cl, tys, z, zs⟩ := G
  obtain ⟨hx, hb, hr, hml, hnl, hnm, hown, hts, hgd, hE, h0, hrf, hrl, hrc, hrs⟩ := X
  intro H locs ls cells slots hH hS hL hc hs
  cases v with
  | null => exact lv_astoreN hx hb hd hL hn hl (fun ls' hL' => k H locs ls' cells slots hH hS hL' hc hs)
  | ref a => exact lv_astore hx hb hd hL hn hl (fun ls' hL' => k H locs ls' cells slots hH hS hL' hc hs)
  | _ => cases hv
theorem v_iinc {K : j_K} {G : j_G} {Y : j_Y} {d mc ms : Nat} (X : j_X K G Y d mc ms) {pc : Nat} {lv : List (Nat × Value)} {st : List Value} {M : j_M} {i : Nat} {n : Int} {x v : Int32} (lv' : List (Nat × Value)) (hd : decode Y.2.1 pc = .ok (.iinc i n, 3)) (hg : j_get lv i = some (.int x)) (hv : x + Int32.ofInt n = v) (hn : i < Y.2.2.1) (hl : (i, Value.int v) :: lv.filter (fun q => !(q.1 == i) && !(q.1 + 1 == i && q.2.category == 2)) = lv') (k : j_V K G Y (pc + 3) lv' st M) : j_V K G Y pc lv st M := by
  obtain ⟨p, l, e, R, s, m, args, below, meth, c, Qs, t0, s0⟩ := K
  obtain ⟨T, D, cl, tys, z, zs⟩ := G
  obtain ⟨hx, hb, hr, hml, hnl, hnm, hown, hts, hgd, hE, h0, hrf, hrl, hrc, hrs⟩ := X
  intro H locs ls cells slots hH hS hL hc hs
  obtain ⟨j, hj⟩ := List.getElem?_of_mem (j_get_mem hg)
  exact lv_iinc hx hb hd hL hj hv hn hl (fun ls' hL' => k H locs ls' cells slots hH hS hL' hc hs)
theorem v_sub {K : j_K} {G : j_G} {Y : j_Y} {pc : Nat} {lv lv' : List (Nat × Value)} {st : List Value} {M : j_M} (h : ∀ q ∈ lv', j_get lv q.1 = some q.2) (k : j_V K G Y pc lv' st M) : j_V K G Y pc lv st M := by
  obtain ⟨p, l, e, R, s, m, args, below, meth, c, Qs, t0, s0⟩ := K
  obtain ⟨T, D, cl, tys, z, zs⟩ := G
  intro H locs ls cells slots hH hS hL hc hs
  exact k H locs ls cells slots hH hS ⟨hL.1, hL.2.1, fun q hq => j_at hL (h q hq)⟩ hc hs
theorem v_iadd {K : j_K} {G : j_G} {Y : j_Y} {d mc ms : Nat} (X : j_X K G Y d mc ms) {pc : Nat} {lv : List (Nat × Value)} {st : List Value} {M : j_M} {x y : Int32} (hd : decode Y.2.1 pc = .ok (.iadd, 1)) (k : j_V K G Y (pc + 1) lv (.int (x + y) :: st) M) : j_V K G Y pc lv (.int y :: .int x :: st) M := by
  obtain ⟨p, l, e, R, s, m, args, below, meth, c, Qs, t0, s0⟩ := K
  obtain ⟨T, D, cl, tys, z, zs⟩ := G
  obtain ⟨hx, hb, hr, hml, hnl, hnm, hown, hts, hgd, hE, h0, hrf, hrl, hrc, hrs⟩ := X
  intro H locs ls cells slots hH hS hL hc hs
  exact lv_iadd hx hb hd (k H locs ls cells slots hH hS hL hc hs)
theorem v_isub {K : j_K} {G : j_G} {Y : j_Y} {d mc ms : Nat} (X : j_X K G Y d mc ms) {pc : Nat} {lv : List (Nat × Value)} {st : List Value} {M : j_M} {x y : Int32} (hd : decode Y.2.1 pc = .ok (.isub, 1)) (k : j_V K G Y (pc + 1) lv (.int (x - y) :: st) M) : j_V K G Y pc lv (.int y :: .int x :: st) M := by
  obtain ⟨p, l, e, R, s, m, args, below, meth, c, Qs, t0, s0⟩ := K
  obtain ⟨T, D, cl, tys, z, zs⟩ := G
  obtain ⟨hx, hb, hr, hml, hnl, hnm, hown, hts, hgd, hE, h0, hrf, hrl, hrc, hrs⟩ := X
  intro H locs ls cells slots hH hS hL hc hs
  exact lv_isub hx hb hd (k H locs ls cells slots hH hS hL hc hs)
theorem v_imul {K : j_K} {G : j_G} {Y : j_Y} {d mc ms : Nat} (X : j_X K G Y d mc ms) {pc : Nat} {lv : List (Nat × Value)} {st : List Value} {M : j_M} {x y : Int32} (hd : decode Y.2.1 pc = .ok (.imul, 1)) (k : j_V K G Y (pc + 1) lv (.int (x * y) :: st) M) : j_V K G Y pc lv (.int y :: .int x :: st) M := by
  obtain ⟨p, l, e, R, s, m, args, below, meth, c, Qs, t0, s0⟩ := K
  obtain ⟨T, D, cl, tys, z, zs⟩ := G
  obtain ⟨hx, hb, hr, hml, hnl, hnm, hown, hts, hgd, hE, h0, hrf, hrl, hrc, hrs⟩ := X
  intro H locs ls cells slots hH hS hL hc hs
  exact lv_imul hx hb hd (k H locs ls cells slots hH hS hL hc hs)
theorem v_iand {K : j_K} {G : j_G} {Y : j_Y} {d mc ms : Nat} (X : j_X K G Y d mc ms) {pc : Nat} {lv : List (Nat × Value)} {st : List Value} {M : j_M} {x y : Int32} (hd : decode Y.2.1 pc = .ok (.iand, 1)) (k : j_V K G Y (pc + 1) lv (.int (x &&& y) :: st) M) : j_V K G Y pc lv (.int y :: .int x :: st) M := by
  obtain ⟨p, l, e, R, s, m, args, below, meth, c, Qs, t0, s0⟩ := K
  obtain ⟨T, D, cl, tys, z, zs⟩ := G
  obtain ⟨hx, hb, hr, hml, hnl, hnm, hown, hts, hgd, hE, h0, hrf, hrl, hrc, hrs⟩ := X
  intro H locs ls cells slots hH hS hL hc hs
  exact lv_iand hx hb hd (k H locs ls cells slots hH hS hL hc hs)
theorem v_ior {K : j_K} {G : j_G} {Y : j_Y} {d mc ms : Nat} (X : j_X K G Y d mc ms) {pc : Nat} {lv : List (Nat × Value)} {st : List Value} {M : j_M} {x y : Int32} (hd : decode Y.2.1 pc = .ok (.ior, 1)) (k : j_V K G Y (pc + 1) lv (.int (x ||| y) :: st) M) : j_V K G Y pc lv (.int y :: .int x :: st) M := by
  obtain ⟨p, l, e, R, s, m, args, below, meth, c, Qs, t0, s0⟩ := K
  obtain ⟨T, D, cl, tys, z, zs⟩ := G
  obtain ⟨hx, hb, hr, hml, hnl, hnm, hown, hts, hgd, hE, h0, hrf, hrl, hrc, hrs⟩ := X
  intro H locs ls cells slots hH hS hL hc hs
  exact lv_ior hx hb hd (k H locs ls cells slots hH hS hL hc hs)
theorem v_ixor {K : j_K} {G : j_G} {Y : j_Y} {d mc ms : Nat} (X : j_X K G Y d mc ms) {pc : Nat} {lv : List (Nat × Value)} {st : List Value} {M : j_M} {x y : Int32} (hd : decode Y.2.1 pc = .ok (.ixor, 1)) (k : j_V K G Y (pc + 1) lv (.int (x ^^^ y) :: st) M) : j_V K G Y pc lv (.int y :: .int x :: st) M := by
  obtain ⟨p, l, e, R, s, m, args, below, meth, c, Qs, t0, s0⟩ := K
  obtain ⟨T, D, cl, tys, z, zs⟩ := G
  obtain ⟨hx, hb, hr, hml, hnl, hnm, hown, hts, hgd, hE, h0, hrf, hrl, hrc, hrs⟩ := X
  intro H locs ls cells slots hH hS hL hc hs
  exact lv_ixor hx hb hd (k H locs ls cells slots hH hS hL hc hs)
theorem v_idiv {K : j_K} {G : j_G} {Y : j_Y} {d mc ms : Nat} (X : j_X K G Y d mc ms) {pc : Nat} {lv : List (Nat × Value)} {st : List Value} {M : j_M} {x y : Int32} (hd : decode Y.2.1 pc = .ok (.idiv, 1)) (hne : ¬ y = 0) (k : j_V K G Y (pc + 1) lv (.int (x / y) :: st) M) : j_V K G Y pc lv (.int y :: .int x :: st) M := by
  obtain ⟨p, l, e, R, s, m, args, below, meth, c, Qs, t0, s0⟩ := K
  obtain ⟨T, D, cl, tys, z, zs⟩ := G
  obtain ⟨hx, hb, hr, hml, hnl, hnm, hown, hts, hgd, hE, h0, hrf, hrl, hrc, hrs⟩ := X
  intro H locs ls cells slots hH hS hL hc hs
  exact lv_idiv hx hb hd hne (k H locs ls cells slots hH hS hL hc hs)
theorem v_irem {K : j_K} {G : j_G} {Y : j_Y} {d mc ms : Nat} (X : j_X K G Y d mc ms) {pc : Nat} {lv : List (Nat × Value)} {st : List Value} {M : j_M} {x y : Int32} (hd : decode Y.2.1 pc = .ok (.irem, 1)) (hne : ¬ y = 0) (k : j_V K G Y (pc + 1) lv (.int (x - x / y * y) :: st) M) : j_V K G Y pc lv (.int y :: .int x :: st) M := by
  obtain ⟨p, l, e, R, s, m, args, below, meth, c, Qs, t0, s0⟩ := K
  obtain ⟨T, D, cl, tys, z, zs⟩ := G
  obtain ⟨hx, hb, hr, hml, hnl, hnm, hown, hts, hgd, hE, h0, hrf, hrl, hrc, hrs⟩ := X
  intro H locs ls cells slots hH hS hL hc hs
  exact lv_irem hx hb hd hne (k H locs ls cells slots hH hS hL hc hs)
theorem v_ineg {K : j_K} {G : j_G} {Y : j_Y} {d mc ms : Nat} (X : j_X K G Y d mc ms) {pc : Nat} {lv : List (Nat × Value)} {st : List Value} {M : j_M} {x : Int32} (hd : decode Y.2.1 pc = .ok (.ineg, 1)) (k : j_V K G Y (pc + 1) lv (.int (-x) :: st) M) : j_V K G Y pc lv (.int x :: st) M := by
  obtain ⟨p, l, e, R, s, m, args, below, meth, c, Qs, t0, s0⟩ := K
  obtain ⟨T, D, cl, tys, z, zs⟩ := G
  obtain ⟨hx, hb, hr, hml, hnl, hnm, hown, hts, hgd, hE, h0, hrf, hrl, hrc, hrs⟩ := X
  intro H locs ls cells slots hH hS hL hc hs
  exact lv_ineg hx hb hd (k H locs ls cells slots hH hS hL hc hs)
theorem v_dup {K : j_K} {G : j_G} {Y : j_Y} {d mc ms : Nat} (X : j_X K G Y d mc ms) {pc : Nat} {lv : List (Nat × Value)} {st : List Value} {M : j_M} {v : Value} (hd : decode Y.2.1 pc = .ok (.dup, 1)) (hv : v.category = 1) (k : j_V K G Y (pc + 1) lv (v :: v :: st) M) : j_V K G Y pc lv (v :: st) M := by
  obtain ⟨p, l, e, R, s, m, args, below, meth, c, Qs, t0, s0⟩ := K
  obtain ⟨T, D, cl, tys, z, zs⟩ := G
  obtain ⟨hx, hb, hr, hml, hnl, hnm, hown, hts, hgd, hE, h0, hrf, hrl, hrc, hrs⟩ := X
  intro H locs ls cells slots hH hS hL hc hs
  exact lv_dup hx hb hd hv (k H locs ls cells slots hH hS hL hc hs)
theorem v_pop {K : j_K} {G : j_G} {Y : j_Y} {d mc ms : Nat} (X : j_X K G Y d mc ms) {pc : Nat} {lv : List (Nat × Value)} {st : List Value} {M : j_M} {v : Value} (hd : decode Y.2.1 pc = .ok (.pop, 1)) (hv : v.category = 1) (k : j_V K G Y (pc + 1) lv st M) : j_V K G Y pc lv (v :: st) M := by
  obtain ⟨p, l, e, R, s, m, args, below, meth, c, Qs, t0, s0⟩ := K
  obtain ⟨T, D, cl, tys, z, zs⟩ := G
  obtain ⟨hx, hb, hr, hml, hnl, hnm, hown, hts, hgd, hE, h0, hrf, hrl, hrc, hrs⟩ := X
  intro H locs ls cells slots hH hS hL hc hs
  exact lv_pop hx hb hd hv (k H locs ls cells slots hH hS hL hc hs)
theorem v_dup_x1 {K : j_K} {G : j_G} {Y : j_Y} {d mc ms : Nat} (X : j_X K G Y d mc ms) {pc : Nat} {lv : List (Nat × Value)} {st : List Value} {M : j_M} {v w : Value} (hd : decode Y.2.1 pc = .ok (.dup_x1, 1)) (hv : v.category = 1) (hw : w.category = 1) (k : j_V K G Y (pc + 1) lv (v :: w :: v :: st) M) : j_V K G Y pc lv (v :: w :: st) M := by
  obtain ⟨p, l, e, R, s, m, args, below, meth, c, Qs, t0, s0⟩ := K
  obtain ⟨T, D, cl, tys, z, zs⟩ := G
  obtain ⟨hx, hb, hr, hml, hnl, hnm, hown, hts, hgd, hE, h0, hrf, hrl, hrc, hrs⟩ := X
  intro H locs ls cells slots hH hS hL hc hs
  exact lv_dup_x1 hx hb hd hv hw (k H locs ls cells slots hH hS hL hc hs)
theorem v_dup_x2 {K : j_K} {G : j_G} {Y : j_Y} {d mc ms : Nat} (X : j_X K G Y d mc ms) {pc : Nat} {lv : List (Nat × Value)} {st : List Value} {M : j_M} {v w u : Value} (hd : decode Y.2.1 pc = .ok (.dup_x2, 1)) (hv : v.category = 1) (hw : w.category = 1) (hu : u.category = 1) (k : j_V K G Y (pc + 1) lv (v :: w :: u :: v :: st) M) : j_V K G Y pc lv (v :: w :: u :: st) M := by
  obtain ⟨p, l, e, R, s, m, args, below, meth, c, Qs, t0, s0⟩ := K
  obtain ⟨T, D, cl, tys, z, zs⟩ := G
  obtain ⟨hx, hb, hr, hml, hnl, hnm, hown, hts, hgd, hE, h0, hrf, hrl, hrc, hrs⟩ := X
  intro H locs ls cells slots hH hS hL hc hs
  exact lv_dup_x2 hx hb hd hv hw hu (k H locs ls cells slots hH hS hL hc hs)
theorem v_dup2 {K : j_K} {G : j_G} {Y : j_Y} {d mc ms : Nat} (X : j_X K G Y d mc ms) {pc : Nat} {lv : List (Nat × Value)} {st : List Value} {M : j_M} {v w : Value} (hd : decode Y.2.1 pc = .ok (.dup2, 1)) (hv : v.category = 1) (hw : w.category = 1) (k : j_V K G Y (pc + 1) lv (v :: w :: v :: w :: st) M) : j_V K G Y pc lv (v :: w :: st) M := by
  obtain ⟨p, l, e, R, s, m, args, below, meth, c, Qs, t0, s0⟩ := K
  obtain ⟨T, D, cl, tys, z, zs⟩ := G
  obtain ⟨hx, hb, hr, hml, hnl, hnm, hown, hts, hgd, hE, h0, hrf, hrl, hrc, hrs⟩ := X
  intro H locs ls cells slots hH hS hL hc hs
  exact lv_dup2_11 hx hb hd hv hw (k H locs ls cells slots hH hS hL hc hs)
theorem v_if_eq {K : j_K} {G : j_G} {Y : j_Y} {d mc ms : Nat} (X : j_X K G Y d mc ms) {pc : Nat} {lv : List (Nat × Value)} {st : List Value} {M : j_M} {x : Int32} {off : Int} (tgt : Nat) (hd : decode Y.2.1 pc = .ok (.ifCond .eq off, 3)) (ht : (pc : Int) + off = (tgt : Int)) (kt : x = 0 → j_V K G Y tgt lv st M) (kf : ¬ x = 0 → j_V K G Y (pc + 3) lv st M) : j_V K G Y pc lv (.int x :: st) M := by
  obtain ⟨p, l, e, R, s, m, args, below, meth, c, Qs, t0, s0⟩ := K
  obtain ⟨T, D, cl, tys, z, zs⟩ := G
  obtain ⟨hx, hb, hr, hml, hnl, hnm, hown, hts, hgd, hE, h0, hrf, hrl, hrc, hrs⟩ := X
  intro H locs ls cells slots hH hS hL hc hs
  exact lv_if_eq hx hb hd ht (fun h => kt h H locs ls cells slots hH hS hL hc hs) (fun h => kf h H locs ls cells slots hH hS hL hc hs)
theorem v_icmp_eq {K : j_K} {G : j_G} {Y : j_Y} {d mc ms : Nat} (X : j_X K G Y d mc ms) {pc : Nat} {lv : List (Nat × Value)} {st : List Value} {M : j_M} {x y : Int32} {off : Int} (tgt : Nat) (hd : decode Y.2.1 pc = .ok (.if_icmp .eq off, 3)) (ht : (pc : Int) + off = (tgt : Int)) (kt : x = y → j_V K G Y tgt lv st M) (kf : ¬ x = y → j_V K G Y (pc + 3) lv st M) : j_V K G Y pc lv (.int y :: .int x :: st) M := by
  obtain ⟨p, l, e, R, s, m, args, below, meth, c, Qs, t0, s0⟩ := K
  obtain ⟨T, D, cl, tys, z, zs⟩ := G
  obtain ⟨hx, hb, hr, hml, hnl, hnm, hown, hts, hgd, hE, h0, hrf, hrl, hrc, hrs⟩ := X
  intro H locs ls cells slots hH hS hL hc hs
  exact lv_icmp_eq hx hb hd ht (fun h => kt h H locs ls cells slots hH hS hL hc hs) (fun h => kf h H locs ls cells slots hH hS hL hc hs)
theorem v_if_ne {K : j_K} {G : j_G} {Y : j_Y} {d mc ms : Nat} (X : j_X K G Y d mc ms) {pc : Nat} {lv : List (Nat × Value)} {st : List Value} {M : j_M} {x : Int32} {off : Int} (tgt : Nat) (hd : decode Y.2.1 pc = .ok (.ifCond .ne off, 3)) (ht : (pc : Int) + off = (tgt : Int)) (kt : ¬ x = 0 → j_V K G Y tgt lv st M) (kf : x = 0 → j_V K G Y (pc + 3) lv st M) : j_V K G Y pc lv (.int x :: st) M := by
  obtain ⟨p, l, e, R, s, m, args, below, meth, c, Qs, t0, s0⟩ := K
  obtain ⟨T, D, cl, tys, z, zs⟩ := G
  obtain ⟨hx, hb, hr, hml, hnl, hnm, hown, hts, hgd, hE, h0, hrf, hrl, hrc, hrs⟩ := X
  intro H locs ls cells slots hH hS hL hc hs
  exact lv_if_ne hx hb hd ht (fun h => kt h H locs ls cells slots hH hS hL hc hs) (fun h => kf h H locs ls cells slots hH hS hL hc hs)
theorem v_icmp_ne {K : j_K} {G : j_G} {Y : j_Y} {d mc ms : Nat} (X : j_X K G Y d mc ms) {pc : Nat} {lv : List (Nat × Value)} {st : List Value} {M : j_M} {x y : Int32} {off : Int} (tgt : Nat) (hd : decode Y.2.1 pc = .ok (.if_icmp .ne off, 3)) (ht : (pc : Int) + off = (tgt : Int)) (kt : ¬ x = y → j_V K G Y tgt lv st M) (kf : x = y → j_V K G Y (pc + 3) lv st M) : j_V K G Y pc lv (.int y :: .int x :: st) M := by
  obtain ⟨p, l, e, R, s, m, args, below, meth, c, Qs, t0, s0⟩ := K
  obtain ⟨T, D, cl, tys, z, zs⟩ := G
  obtain ⟨hx, hb, hr, hml, hnl, hnm, hown, hts, hgd, hE, h0, hrf, hrl, hrc, hrs⟩ := X
  intro H locs ls cells slots hH hS hL hc hs
  exact lv_icmp_ne hx hb hd ht (fun h => kt h H locs ls cells slots hH hS hL hc hs) (fun h => kf h H locs ls cells slots hH hS hL hc hs)
theorem v_if_lt {K : j_K} {G : j_G} {Y : j_Y} {d mc ms : Nat} (X : j_X K G Y d mc ms) {pc : Nat} {lv : List (Nat × Value)} {st : List Value} {M : j_M} {x : Int32} {off : Int} (tgt : Nat) (hd : decode Y.2.1 pc = .ok (.ifCond .lt off, 3)) (ht : (pc : Int) + off = (tgt : Int)) (kt : x < 0 → j_V K G Y tgt lv st M) (kf : ¬ x < 0 → j_V K G Y (pc + 3) lv st M) : j_V K G Y pc lv (.int x :: st) M := by
  obtain ⟨p, l, e, R, s, m, args, below, meth, c, Qs, t0, s0⟩ := K
  obtain ⟨T, D, cl, tys, z, zs⟩ := G
  obtain ⟨hx, hb, hr, hml, hnl, hnm, hown, hts, hgd, hE, h0, hrf, hrl, hrc, hrs⟩ := X
  intro H locs ls cells slots hH hS hL hc hs
  exact lv_if_lt hx hb hd ht (fun h => kt h H locs ls cells slots hH hS hL hc hs) (fun h => kf h H locs ls cells slots hH hS hL hc hs)
theorem v_icmp_lt {K : j_K} {G : j_G} {Y : j_Y} {d mc ms : Nat} (X : j_X K G Y d mc ms) {pc : Nat} {lv : List (Nat × Value)} {st : List Value} {M : j_M} {x y : Int32} {off : Int} (tgt : Nat) (hd : decode Y.2.1 pc = .ok (.if_icmp .lt off, 3)) (ht : (pc : Int) + off = (tgt : Int)) (kt : x < y → j_V K G Y tgt lv st M) (kf : ¬ x < y → j_V K G Y (pc + 3) lv st M) : j_V K G Y pc lv (.int y :: .int x :: st) M := by
  obtain ⟨p, l, e, R, s, m, args, below, meth, c, Qs, t0, s0⟩ := K
  obtain ⟨T, D, cl, tys, z, zs⟩ := G
  obtain ⟨hx, hb, hr, hml, hnl, hnm, hown, hts, hgd, hE, h0, hrf, hrl, hrc, hrs⟩ := X
  intro H locs ls cells slots hH hS hL hc hs
  exact lv_icmp_lt hx hb hd ht (fun h => kt h H locs ls cells slots hH hS hL hc hs) (fun h => kf h H locs ls cells slots hH hS hL hc hs)
theorem v_if_ge {K : j_K} {G : j_G} {Y : j_Y} {d mc ms : Nat} (X : j_X K G Y d mc ms) {pc : Nat} {lv : List (Nat × Value)} {st : List Value} {M : j_M} {x : Int32} {off : Int} (tgt : Nat) (hd : decode Y.2.1 pc = .ok (.ifCond .ge off, 3)) (ht : (pc : Int) + off = (tgt : Int)) (kt : 0 ≤ x → j_V K G Y tgt lv st M) (kf : ¬ 0 ≤ x → j_V K G Y (pc + 3) lv st M) : j_V K G Y pc lv (.int x :: st) M := by
  obtain ⟨p, l, e, R, s, m, args, below, meth, c, Qs, t0, s0⟩ := K
  obtain ⟨T, D, cl, tys, z, zs⟩ := G
  obtain ⟨hx, hb, hr, hml, hnl, hnm, hown, hts, hgd, hE, h0, hrf, hrl, hrc, hrs⟩ := X
  intro H locs ls cells slots hH hS hL hc hs
  exact lv_if_ge hx hb hd ht (fun h => kt h H locs ls cells slots hH hS hL hc hs) (fun h => kf h H locs ls cells slots hH hS hL hc hs)
theorem v_icmp_ge {K : j_K} {G : j_G} {Y : j_Y} {d mc ms : Nat} (X : j_X K G Y d mc ms) {pc : Nat} {lv : List (Nat × Value)} {st : List Value} {M : j_M} {x y : Int32} {off : Int} (tgt : Nat) (hd : decode Y.2.1 pc = .ok (.if_icmp .ge off, 3)) (ht : (pc : Int) + off = (tgt : Int)) (kt : y ≤ x → j_V K G Y tgt lv st M) (kf : ¬ y ≤ x → j_V K G Y (pc + 3) lv st M) : j_V K G Y pc lv (.int y :: .int x :: st) M := by
  obtain ⟨p, l, e, R, s, m, args, below, meth, c, Qs, t0, s0⟩ := K
  obtain ⟨T, D, cl, tys, z, zs⟩ := G
  obtain ⟨hx, hb, hr, hml, hnl, hnm, hown, hts, hgd, hE, h0, hrf, hrl, hrc, hrs⟩ := X
  intro H locs ls cells slots hH hS hL hc hs
  exact lv_icmp_ge hx hb hd ht (fun h => kt h H locs ls cells slots hH hS hL hc hs) (fun h => kf h H locs ls cells slots hH hS hL hc hs)
theorem v_if_gt {K : j_K} {G : j_G} {Y : j_Y} {d mc ms : Nat} (X : j_X K G Y d mc ms) {pc : Nat} {lv : List (Nat × Value)} {st : List Value} {M : j_M} {x : Int32} {off : Int} (tgt : Nat) (hd : decode Y.2.1 pc = .ok (.ifCond .gt off, 3)) (ht : (pc : Int) + off = (tgt : Int)) (kt : 0 < x → j_V K G Y tgt lv st M) (kf : ¬ 0 < x → j_V K G Y (pc + 3) lv st M) : j_V K G Y pc lv (.int x :: st) M := by
  obtain ⟨p, l, e, R, s, m, args, below, meth, c, Qs, t0, s0⟩ := K
  obtain ⟨T, D, cl, tys, z, zs⟩ := G
  obtain ⟨hx, hb, hr, hml, hnl, hnm, hown, hts, hgd, hE, h0, hrf, hrl, hrc, hrs⟩ := X
  intro H locs ls cells slots hH hS hL hc hs
  exact lv_if_gt hx hb hd ht (fun h => kt h H locs ls cells slots hH hS hL hc hs) (fun h => kf h H locs ls cells slots hH hS hL hc hs)
theorem v_icmp_gt {K : j_K} {G : j_G} {Y : j_Y} {d mc ms : Nat} (X : j_X K G Y d mc ms) {pc : Nat} {lv : List (Nat × Value)} {st : List Value} {M : j_M} {x y : Int32} {off : Int} (tgt : Nat) (hd : decode Y.2.1 pc = .ok (.if_icmp .gt off, 3)) (ht : (pc : Int) + off = (tgt : Int)) (kt : y < x → j_V K G Y tgt lv st M) (kf : ¬ y < x → j_V K G Y (pc + 3) lv st M) : j_V K G Y pc lv (.int y :: .int x :: st) M := by
  obtain ⟨p, l, e, R, s, m, args, below, meth, c, Qs, t0, s0⟩ := K
  obtain ⟨T, D, cl, tys, z, zs⟩ := G
  obtain ⟨hx, hb, hr, hml, hnl, hnm, hown, hts, hgd, hE, h0, hrf, hrl, hrc, hrs⟩ := X
  intro H locs ls cells slots hH hS hL hc hs
  exact lv_icmp_gt hx hb hd ht (fun h => kt h H locs ls cells slots hH hS hL hc hs) (fun h => kf h H locs ls cells slots hH hS hL hc hs)
theorem v_if_le {K : j_K} {G : j_G} {Y : j_Y} {d mc ms : Nat} (X : j_X K G Y d mc ms) {pc : Nat} {lv : List (Nat × Value)} {st : List Value} {M : j_M} {x : Int32} {off : Int} (tgt : Nat) (hd : decode Y.2.1 pc = .ok (.ifCond .le off, 3)) (ht : (pc : Int) + off = (tgt : Int)) (kt : x ≤ 0 → j_V K G Y tgt lv st M) (kf : ¬ x ≤ 0 → j_V K G Y (pc + 3) lv st M) : j_V K G Y pc lv (.int x :: st) M := by
  obtain ⟨p, l, e, R, s, m, args, below, meth, c, Qs, t0, s0⟩ := K
  obtain ⟨T, D, cl, tys, z, zs⟩ := G
  obtain ⟨hx, hb, hr, hml, hnl, hnm, hown, hts, hgd, hE, h0, hrf, hrl, hrc, hrs⟩ := X
  intro H locs ls cells slots hH hS hL hc hs
  exact lv_if_le hx hb hd ht (fun h => kt h H locs ls cells slots hH hS hL hc hs) (fun h => kf h H locs ls cells slots hH hS hL hc hs)
theorem v_icmp_le {K : j_K} {G : j_G} {Y : j_Y} {d mc ms : Nat} (X : j_X K G Y d mc ms) {pc : Nat} {lv : List (Nat × Value)} {st : List Value} {M : j_M} {x y : Int32} {off : Int} (tgt : Nat) (hd : decode Y.2.1 pc = .ok (.if_icmp .le off, 3)) (ht : (pc : Int) + off = (tgt : Int)) (kt : x ≤ y → j_V K G Y tgt lv st M) (kf : ¬ x ≤ y → j_V K G Y (pc + 3) lv st M) : j_V K G Y pc lv (.int y :: .int x :: st) M := by
  obtain ⟨p, l, e, R, s, m, args, below, meth, c, Qs, t0, s0⟩ := K
  obtain ⟨T, D, cl, tys, z, zs⟩ := G
  obtain ⟨hx, hb, hr, hml, hnl, hnm, hown, hts, hgd, hE, h0, hrf, hrl, hrc, hrs⟩ := X
  intro H locs ls cells slots hH hS hL hc hs
  exact lv_icmp_le hx hb hd ht (fun h => kt h H locs ls cells slots hH hS hL hc hs) (fun h => kf h H locs ls cells slots hH hS hL hc hs)
theorem v_goto {K : j_K} {G : j_G} {Y : j_Y} {d mc ms : Nat} (X : j_X K G Y d mc ms) {pc : Nat} {lv : List (Nat × Value)} {st : List Value} {M : j_M} {off : Int} {tgt : Nat} (hd : decode Y.2.1 pc = .ok (.goto off, 3)) (ht : (pc : Int) + off = (tgt : Int)) (k : j_V K G Y tgt lv st M) : j_V K G Y pc lv st M := by
  obtain ⟨p, l, e, R, s, m, args, below, meth, c, Qs, t0, s0⟩ := K
  obtain ⟨T, D, cl, tys, z, zs⟩ := G
  obtain ⟨hx, hb, hr, hml, hnl, hnm, hown, hts, hgd, hE, h0, hrf, hrl, hrc, hrs⟩ := X
  intro H locs ls cells slots hH hS hL hc hs
  exact lv_goto hx hb hd ht (k H locs ls cells slots hH hS hL hc hs)
theorem v_ifnullN {K : j_K} {G : j_G} {Y : j_Y} {d mc ms : Nat} (X : j_X K G Y d mc ms) {pc : Nat} {lv : List (Nat × Value)} {st : List Value} {M : j_M} {off : Int} {tgt : Nat} (hd : decode Y.2.1 pc = .ok (.ifnull off, 3)) (ht : (pc : Int) + off = (tgt : Int)) (k : j_V K G Y tgt lv st M) : j_V K G Y pc lv (.null :: st) M := by
  obtain ⟨p, l, e, R, s, m, args, below, meth, c, Qs, t0, s0⟩ := K
  obtain ⟨T, D, cl, tys, z, zs⟩ := G
  obtain ⟨hx, hb, hr, hml, hnl, hnm, hown, hts, hgd, hE, h0, hrf, hrl, hrc, hrs⟩ := X
  intro H locs ls cells slots hH hS hL hc hs
  exact lv_ifnullN hx hb hd ht (k H locs ls cells slots hH hS hL hc hs)
theorem v_ifnullR {K : j_K} {G : j_G} {Y : j_Y} {d mc ms : Nat} (X : j_X K G Y d mc ms) {pc : Nat} {lv : List (Nat × Value)} {st : List Value} {M : j_M} {off : Int} {a : Nat} (hd : decode Y.2.1 pc = .ok (.ifnull off, 3)) (k : j_V K G Y (pc + 3) lv st M) : j_V K G Y pc lv (.ref a :: st) M := by
  obtain ⟨p, l, e, R, s, m, args, below, meth, c, Qs, t0, s0⟩ := K
  obtain ⟨T, D, cl, tys, z, zs⟩ := G
  obtain ⟨hx, hb, hr, hml, hnl, hnm, hown, hts, hgd, hE, h0, hrf, hrl, hrc, hrs⟩ := X
  intro H locs ls cells slots hH hS hL hc hs
  exact lv_ifnull hx hb hd (k H locs ls cells slots hH hS hL hc hs)
theorem v_ifnonnullN {K : j_K} {G : j_G} {Y : j_Y} {d mc ms : Nat} (X : j_X K G Y d mc ms) {pc : Nat} {lv : List (Nat × Value)} {st : List Value} {M : j_M} {off : Int} (hd : decode Y.2.1 pc = .ok (.ifnonnull off, 3)) (k : j_V K G Y (pc + 3) lv st M) : j_V K G Y pc lv (.null :: st) M := by
  obtain ⟨p, l, e, R, s, m, args, below, meth, c, Qs, t0, s0⟩ := K
  obtain ⟨T, D, cl, tys, z, zs⟩ := G
  obtain ⟨hx, hb, hr, hml, hnl, hnm, hown, hts, hgd, hE, h0, hrf, hrl, hrc, hrs⟩ := X
  intro H locs ls cells slots hH hS hL hc hs
  exact lv_ifnonnullN hx hb hd (k H locs ls cells slots hH hS hL hc hs)
theorem v_ifnonnullR {K : j_K} {G : j_G} {Y : j_Y} {d mc ms : Nat} (X : j_X K G Y d mc ms) {pc : Nat} {lv : List (Nat × Value)} {st : List Value} {M : j_M} {off : Int} {tgt : Nat} {a : Nat} (hd : decode Y.2.1 pc = .ok (.ifnonnull off, 3)) (ht : (pc : Int) + off = (tgt : Int)) (k : j_V K G Y tgt lv st M) : j_V K G Y pc lv (.ref a :: st) M := by
  obtain ⟨p, l, e, R, s, m, args, below, meth, c, Qs, t0, s0⟩ := K
  obtain ⟨T, D, cl, tys, z, zs⟩ := G
  obtain ⟨hx, hb, hr, hml, hnl, hnm, hown, hts, hgd, hE, h0, hrf, hrl, hrc, hrs⟩ := X
  intro H locs ls cells slots hH hS hL hc hs
  exact lv_ifnonnull hx hb hd ht (k H locs ls cells slots hH hS hL hc hs)
theorem v_tableOut {K : j_K} {G : j_G} {Y : j_Y} {d mc ms : Nat} (X : j_X K G Y d mc ms) {pc : Nat} {lv : List (Nat × Value)} {st : List Value} {M : j_M} {dflt lo hi : Int} {offs : Array Int} {len : Nat} {x : Int32} {tgt : Nat} (hd : decode Y.2.1 pc = .ok (.tableswitch dflt lo hi offs, len)) (h : x.toInt < lo ∨ hi < x.toInt) (ht : (pc : Int) + dflt = (tgt : Int)) (k : j_V K G Y tgt lv st M) : j_V K G Y pc lv (.int x :: st) M := by
  obtain ⟨p, l, e, R, s, m, args, below, meth, c, Qs, t0, s0⟩ := K
  obtain ⟨T, D, cl, tys, z, zs⟩ := G
  obtain ⟨hx, hb, hr, hml, hnl, hnm, hown, hts, hgd, hE, h0, hrf, hrl, hrc, hrs⟩ := X
  intro H locs ls cells slots hH hS hL hc hs
  exact lv_tableOut hx hb hd h ht (k H locs ls cells slots hH hS hL hc hs)
theorem v_tableIn {K : j_K} {G : j_G} {Y : j_Y} {d mc ms : Nat} (X : j_X K G Y d mc ms) {pc : Nat} {lv : List (Nat × Value)} {st : List Value} {M : j_M} {dflt lo hi : Int} {offs : Array Int} {len : Nat} {x : Int32} {off : Int} {tgt : Nat} (hd : decode Y.2.1 pc = .ok (.tableswitch dflt lo hi offs, len)) (h1 : ¬ x.toInt < lo) (h2 : ¬ hi < x.toInt) (ho : offs[(x.toInt - lo).toNat]? = some off) (ht : (pc : Int) + off = (tgt : Int)) (k : j_V K G Y tgt lv st M) : j_V K G Y pc lv (.int x :: st) M := by
  obtain ⟨p, l, e, R, s, m, args, below, meth, c, Qs, t0, s0⟩ := K
  obtain ⟨T, D, cl, tys, z, zs⟩ := G
  obtain ⟨hx, hb, hr, hml, hnl, hnm, hown, hts, hgd, hE, h0, hrf, hrl, hrc, hrs⟩ := X
  intro H locs ls cells slots hH hS hL hc hs
  exact lv_tableIn hx hb hd h1 h2 ho ht (k H locs ls cells slots hH hS hL hc hs)
theorem v_lookup {K : j_K} {G : j_G} {Y : j_Y} {d mc ms : Nat} (X : j_X K G Y d mc ms) {pc : Nat} {lv : List (Nat × Value)} {st : List Value} {M : j_M} {dflt : Int} {ps : Array (Int × Int)} {len : Nat} {x : Int32} {off : Int} {tgt : Nat} (hd : decode Y.2.1 pc = .ok (.lookupswitch dflt ps, len)) (hp : (ps.toList.zip (ps.toList.drop 1)).all (fun (a, next) => a.1 < next.1) = true) (ho : Op.lookupswitch.offset ps.toList dflt x.toInt = off) (ht : (pc : Int) + off = (tgt : Int)) (k : j_V K G Y tgt lv st M) : j_V K G Y pc lv (.int x :: st) M := by
  obtain ⟨p, l, e, R, s, m, args, below, meth, c, Qs, t0, s0⟩ := K
  obtain ⟨T, D, cl, tys, z, zs⟩ := G
  obtain ⟨hx, hb, hr, hml, hnl, hnm, hown, hts, hgd, hE, h0, hrf, hrl, hrc, hrs⟩ := X
  intro H locs ls cells slots hH hS hL hc hs
  exact lv_lookup hx hb hd hp ho ht (k H locs ls cells slots hH hS hL hc hs)
/-- the links of a field: its class's number in the list, its place there -/
def j_F (G : j_G) (own : String) (i ci k : Nat) : Prop := match G with
  | (T, _, cl, _, _, _) => ∃ (C : String) (Tb : u_T) (N : Nat), cl[ci]? = some (C, Tb, N) ∧ k < N ∧ (∀ w ∈ u_ws C Tb N, w ∈ T) ∧ Cond.fieldLink own i (Tb k).1 (Tb k).2.1 (Tb k).2.2.1 ∈ T
/-- and what a store needs -/
def j_P (G : j_G) (own : String) (i ci k : Nat) (fin : Bool) (ty : FieldType) : Prop := match G with
  | (T, _, cl, _, _, _) => ∃ (C : String) (Tb : u_T) (N : Nat) (ty0 : Nat → FieldType), cl[ci]? = some (C, Tb, N) ∧ k < N ∧ (∀ w ∈ u_ws C Tb N, w ∈ T) ∧ Cond.fieldLink own i (Tb k).1 (Tb k).2.1 (Tb k).2.2.1 ∈ T ∧
    (∀ j, j < N → parseFieldDescriptor (Tb j).2.2.1 = some (ty0 j)) ∧ (∀ a, a < N → ∀ b, b < N → a ≠ b → (Tb a).2.1 ≠ (Tb b).2.1) ∧ (Tb k).2.2.2 = fin ∧ parseFieldDescriptor (Tb k).2.2.1 = some ty ∧ (fin = true → (Tb k).1 = own)
theorem v_get {K : j_K} {G : j_G} {Y : j_Y} {d mc ms : Nat} (X : j_X K G Y d mc ms) {pc : Nat} {lv : List (Nat × Value)} {st : List Value} {M : j_M} {i ci k a : Nat} {fs : List Value} {v : Value} (F : j_F G Y.1.cls i ci k) (hd : decode Y.2.1 pc = .ok (.getfield i, 3)) (hc0 : M.2.2 a = some (.inr (ci, fs))) (hv : fs[k]? = some v) (kk : j_V K G Y (pc + 3) lv (v :: st) M) : j_V K G Y pc lv (.ref a :: st) M := by
  obtain ⟨p, l, e, R, s, m, args, below, meth, c, Qs, t0, s0⟩ := K
  obtain ⟨T, D, cl, tys, z, zs⟩ := G
  obtain ⟨hx, hb, hr, hml, hnl, hnm, hown, hts, hgd, hE, h0, hrf, hrl, hrc, hrs⟩ := X
  intro H locs ls cells slots hH hS hL hc hs
  obtain ⟨C, Tb, N, hcl, hk, hin, hlink⟩ := F
  exact va_get hx hb hts hin hown hE.1 (j_one hH hc0) 0 rfl hcl k hk (hts _ hlink) (fun _ h => h) hv hd (kk H locs ls cells slots hH hS hL hc hs)
theorem v_put {K : j_K} {G : j_G} {Y : j_Y} {d mc ms : Nat} (X : j_X K G Y d mc ms) {pc : Nat} {lv : List (Nat × Value)} {st : List Value} {M : j_M} {i ci k a : Nat} {fs : List Value} {ty : FieldType} {v : Value} (F : j_P G Y.1.cls i ci k false ty) (hd : decode Y.2.1 pc = .ok (.putfield i, 3)) (hc0 : M.2.2 a = some (.inr (ci, fs))) (hn : narrow ty v = v) (hfit : fits ty v = true) (hl : k < fs.length) (kk : j_V K G Y (pc + 3) lv st (M.1, M.2.1, j_up M.2.2 a (.inr (ci, fs.set k v)))) : j_V K G Y pc lv (v :: .ref a :: st) M := by
  obtain ⟨p, l, e, R, s, m, args, below, meth, c, Qs, t0, s0⟩ := K
  obtain ⟨T, D, cl, tys, z, zs⟩ := G
  obtain ⟨hx, hb, hr, hml, hnl, hnm, hown, hts, hgd, hE, h0, hrf, hrl, hrc, hrs⟩ := X
  intro H locs ls cells slots hH hS hL hc hs
  obtain ⟨C, Tb, N, ty0, hcl, hk, hin, hlink, hty, hnm2, hfin, hd2, -⟩ := F
  have hap := va_apart (own := Y.1.cls) hts hin ty0 hty hnm2 hE.1 hcl
  obtain ⟨r, h1, cell, q1, q2, q3, q4⟩ := (hH.2 a _ hc0).2
  have hr2 : r = (C, Tb, N) := Option.some.inj (h1.symm.trans hcl)
  subst hr2
  obtain ⟨hS1, hfc, kC, hkC, hkind⟩ := hE.1.1 ci _ hcl
  obtain ⟨cf, kf, fi, f, hi, hsl⟩ := hS1 k hk
  have hlay := hts _ (hin _ (u_in_lay hk))
  unfold u_lay at hlay
  rw [if_neg (by rw [hfin]; decide)] at hlay
  have hst := (u_facts hfc hkC (u_lays hts hin hk) hi).1
  have h6 := u_store hfc hkC hkind hlay hi hd2 hn hfit
  refine W.putK hx hb (f := f) ⟨hown, hts _ hlink, ⟨_, _, _, hi⟩, hst⟩ (by rw [q2]; exact h6) q1 q3 (by rw [hsl]; exact k2_hasslot (q4 k hk)) rfl rfl hd fun H' e1 e2 e3 => ?_
  rw [hsl] at e1 ⊢
  refine kk H' _ ls cells slots (j_heap_put hH (hH.2 a _ hc0).1 ⟨_, hcl, t_OB.to (V := updV (vp_V fs) k v) ⟨_, e1, q2, q3, t_set q4 hap hk v⟩ (fun j _ => vp_updV_set hl v j)⟩ e2 e3) (hS.put e2 e3 (hH.2 a _ hc0).1) hL hc hs
theorem v_putF {K : j_K} {G : j_G} {Y : j_Y} {d mc ms : Nat} (X : j_X K G Y d mc ms) {pc : Nat} {lv : List (Nat × Value)} {st : List Value} {M : j_M} {i ci k a : Nat} {fs : List Value} {ty : FieldType} {v : Value} (F : j_P G Y.1.cls i ci k true ty) (hinit : Y.1.name = "<init>") (hd : decode Y.2.1 pc = .ok (.putfield i, 3)) (hc0 : M.2.2 a = some (.inr (ci, fs))) (hn : narrow ty v = v) (hfit : fits ty v = true) (hl : k < fs.length) (kk : j_V K G Y (pc + 3) lv st (M.1, M.2.1, j_up M.2.2 a (.inr (ci, fs.set k v)))) : j_V K G Y pc lv (v :: .ref a :: st) M := by
  obtain ⟨p, l, e, R, s, m, args, below, meth, c, Qs, t0, s0⟩ := K
  obtain ⟨T, D, cl, tys, z, zs⟩ := G
  obtain ⟨hx, hb, hr, hml, hnl, hnm, hown, hts, hgd, hE, h0, hrf, hrl, hrc, hrs⟩ := X
  intro H locs ls cells slots hH hS hL hc hs
  obtain ⟨C, Tb, N, ty0, hcl, hk, hin, hlink, hty, hnm2, hfin, hd2, hdecl⟩ := F
  have hdecl := hdecl rfl
  have hap := va_apart (own := Y.1.cls) hts hin ty0 hty hnm2 hE.1 hcl
  obtain ⟨r, h1, cell, q1, q2, q3, q4⟩ := (hH.2 a _ hc0).2
  have hr2 : r = (C, Tb, N) := Option.some.inj (h1.symm.trans hcl)
  subst hr2
  obtain ⟨hS1, hfc, kC, hkC, hkind⟩ := hE.1.1 ci _ hcl
  obtain ⟨cf, kf, fi, f, hi, hsl⟩ := hS1 k hk
  have hlay := hts _ (hin _ (u_in_lay hk))
  unfold u_lay at hlay
  rw [if_pos hfin] at hlay
  have hst := (u_facts hfc hkC (u_lays hts hin hk) hi).1
  have hcf : m.cls = cf := by
    obtain ⟨_, _, c', _, _, _, -, -, hf', -, -, -, hown2, -⟩ := Cond.laysFinal_spec hlay
    have e1 : c' = cf := by have := hi.symm.trans hf'; simp at this; exact this.1.symm
    rw [hdecl] at hown2
    rw [← e1]; exact Option.some.inj (hown.symm.trans hown2)
  have h6 := u_fits hfc hkC hkind (Or.inr hlay) hi hd2 hn hfit
  refine W.putFinK hx hb hown (hts _ hlink) hi hst hcf (hnm.trans hinit) (by rw [q2]; exact h6) q1 q3 (by rw [hsl]; exact k2_hasslot (q4 k hk)) rfl rfl hd fun H' e1 e2 e3 => ?_
  rw [hsl] at e1 ⊢
  refine kk H' _ ls cells slots (j_heap_put hH (hH.2 a _ hc0).1 ⟨_, hcl, t_OB.to (V := updV (vp_V fs) k v) ⟨_, e1, q2, q3, t_set q4 hap hk v⟩ (fun j _ => vp_updV_set hl v j)⟩ e2 e3) (hS.put e2 e3 (hH.2 a _ hc0).1) hL hc hs
def j_ty (G : j_G) (k : Nat) : Option (ClassId × FieldType) := G.2.2.2.1[k]?
theorem v_iaload {K : j_K} {G : j_G} {Y : j_Y} {d mc ms : Nat} (X : j_X K G Y d mc ms) {pc : Nat} {lv : List (Nat × Value)} {st : List Value} {M : j_M} {a ti n : Nat} {cA : ClassId} {f : Nat → Int32} {i : Int32} (hty : j_ty G ti = some (cA, .int)) (hd : decode Y.2.1 pc = .ok (.iaload, 1)) (hc0 : M.2.2 a = some (.inl (cA, n, .inl f))) (hin : vp_in i n) (k : j_V K G Y (pc + 1) lv (.int (f i.toNatClampNeg) :: st) M) : j_V K G Y pc lv (.int i :: .ref a :: st) M := by
  obtain ⟨p, l, e, R, s, m, args, below, meth, c, Qs, t0, s0⟩ := K
  obtain ⟨T, D, cl, tys, z, zs⟩ := G
  obtain ⟨hx, hb, hr, hml, hnl, hnm, hown, hts, hgd, hE, h0, hrf, hrl, hrc, hrs⟩ := X
  intro H locs ls cells slots hH hS hL hc hs
  exact va_iald hx hb hE.1 (j_one hH hc0) 0 ti rfl hty hin hd (k H locs ls cells slots hH hS hL hc hs)
theorem v_iastore {K : j_K} {G : j_G} {Y : j_Y} {d mc ms : Nat} (X : j_X K G Y d mc ms) {pc : Nat} {lv : List (Nat × Value)} {st : List Value} {M : j_M} {a ti n : Nat} {cA : ClassId} {f : Nat → Int32} {i x : Int32} (hty : j_ty G ti = some (cA, .int)) (hd : decode Y.2.1 pc = .ok (.iastore, 1)) (hc0 : M.2.2 a = some (.inl (cA, n, .inl f))) (hin : vp_in i n) (k : j_V K G Y (pc + 1) lv st (M.1, M.2.1, j_up M.2.2 a (.inl (cA, n, .inl (upd f i.toNatClampNeg x))))) : j_V K G Y pc lv (.int x :: .int i :: .ref a :: st) M := by
  obtain ⟨p, l, e, R, s, m, args, below, meth, c, Qs, t0, s0⟩ := K
  obtain ⟨T, D, cl, tys, z, zs⟩ := G
  obtain ⟨hx, hb, hr, hml, hnl, hnm, hown, hts, hgd, hE, h0, hrf, hrl, hrc, hrs⟩ := X
  intro H locs ls cells slots hH hS hL hc hs
  have ha := hH.2 a _ hc0
  refine W.iast hx hb ha.2 ((hE.1.2 ti _ hty).1 n (fun j => .int (f j))) (fun q => by cases q) (by show ¬ (i < 0 ∨ (arrV _ _ _).slots.size ≤ _); rw [arrV_size]; exact hin) rfl rfl hd fun H1 e z oq => ?_
  refine k H1 _ ls cells slots (j_heap_put hH ha.1 ?_ z oq) (hS.put z oq ha.1) hL hc hs
  show H1[a]? = some (vp_cell _ _)
  rw [e]
  rw [vp_cell_i, vp_cell_i, arrV_store]
  congr 2
  funext q
  by_cases hq : q = i.toNatClampNeg
  · subst hq
    simp [updV, upd]
  · simp [updV, upd, hq]
theorem v_baload {K : j_K} {G : j_G} {Y : j_Y} {d mc ms : Nat} (X : j_X K G Y d mc ms) {pc : Nat} {lv : List (Nat × Value)} {st : List Value} {M : j_M} {a ti n : Nat} {cA : ClassId} {f : Nat → Int32} {i : Int32} (hty : j_ty G ti = some (cA, .boolean)) (hd : decode Y.2.1 pc = .ok (.baload, 1)) (hc0 : M.2.2 a = some (.inl (cA, n, .inl f))) (hin : vp_in i n) (k : j_V K G Y (pc + 1) lv (.int (f i.toNatClampNeg) :: st) M) : j_V K G Y pc lv (.int i :: .ref a :: st) M := by
  obtain ⟨p, l, e, R, s, m, args, below, meth, c, Qs, t0, s0⟩ := K
  obtain ⟨T, D, cl, tys, z, zs⟩ := G
  obtain ⟨hx, hb, hr, hml, hnl, hnm, hown, hts, hgd, hE, h0, hrf, hrl, hrc, hrs⟩ := X
  intro H locs ls cells slots hH hS hL hc hs
  exact va_zald hx hb hE.1 (j_one hH hc0) 0 ti rfl hty hin hd (k H locs ls cells slots hH hS hL hc hs)
theorem v_bastore {K : j_K} {G : j_G} {Y : j_Y} {d mc ms : Nat} (X : j_X K G Y d mc ms) {pc : Nat} {lv : List (Nat × Value)} {st : List Value} {M : j_M} {a ti n : Nat} {cA : ClassId} {f : Nat → Int32} {i x : Int32} (hty : j_ty G ti = some (cA, .boolean)) (hd : decode Y.2.1 pc = .ok (.bastore, 1)) (hc0 : M.2.2 a = some (.inl (cA, n, .inl f))) (hin : vp_in i n) (hx1 : vp_nar .boolean x = x) (k : j_V K G Y (pc + 1) lv st (M.1, M.2.1, j_up M.2.2 a (.inl (cA, n, .inl (upd f i.toNatClampNeg x))))) : j_V K G Y pc lv (.int x :: .int i :: .ref a :: st) M := by
  obtain ⟨p, l, e, R, s, m, args, below, meth, c, Qs, t0, s0⟩ := K
  obtain ⟨T, D, cl, tys, z, zs⟩ := G
  obtain ⟨hx, hb, hr, hml, hnl, hnm, hown, hts, hgd, hE, h0, hrf, hrl, hrc, hrs⟩ := X
  intro H locs ls cells slots hH hS hL hc hs
  have ha := hH.2 a _ hc0
  refine W.zast hx hb ha.2 ((hE.1.2 ti _ hty).1 n (fun j => .int (f j))) (fun q => by cases q) (by show ¬ (i < 0 ∨ (arrV _ _ _).slots.size ≤ _); rw [arrV_size]; exact hin) rfl rfl hd fun H1 e z oq => ?_
  refine k H1 _ ls cells slots (j_heap_put hH ha.1 ?_ z oq) (hS.put z oq ha.1) hL hc hs
  have hx2 : narrow .boolean (.int x) = .int x := by
    have e0 : narrow .boolean (.int x) = .int (vp_nar .boolean x) := rfl
    rw [e0, hx1]
  show H1[a]? = some (vp_cell _ _)
  rw [e]
  rw [vp_cell_i, vp_cell_i, arrV_store, hx2]
  congr 2
  funext q
  by_cases hq : q = i.toNatClampNeg
  · subst hq
    simp [updV, upd]
  · simp [updV, upd, hq]
theorem v_aaload {K : j_K} {G : j_G} {Y : j_Y} {d mc ms : Nat} (X : j_X K G Y d mc ms) {pc : Nat} {lv : List (Nat × Value)} {st : List Value} {M : j_M} {a ti n : Nat} {cA : ClassId} {C : String} {f : Nat → Option Nat} {i : Int32} {v : Value} (hty : j_ty G ti = some (cA, .object C)) (hd : decode Y.2.1 pc = .ok (.aaload, 1)) (hc0 : M.2.2 a = some (.inl (cA, n, .inr (.inr (.inr (.inr f)))))) (hin : vp_in i n) (hv : va_rf (f i.toNatClampNeg) = v) (k : j_V K G Y (pc + 1) lv (v :: st) M) : j_V K G Y pc lv (.int i :: .ref a :: st) M := by
  obtain ⟨p, l, e, R, s, m, args, below, meth, c, Qs, t0, s0⟩ := K
  obtain ⟨T, D, cl, tys, z, zs⟩ := G
  obtain ⟨hx, hb, hr, hml, hnl, hnm, hown, hts, hgd, hE, h0, hrf, hrl, hrc, hrs⟩ := X
  intro H locs ls cells slots hH hS hL hc hs
  subst hv
  exact va_aldq hx hb hE.1 (j_one hH hc0) 0 ti rfl hty hin hd (k H locs ls cells slots hH hS hL hc hs)
theorem v_aastore {K : j_K} {G : j_G} {Y : j_Y} {d mc ms : Nat} (X : j_X K G Y d mc ms) {pc : Nat} {lv : List (Nat × Value)} {st : List Value} {M : j_M} {a ti n ci v : Nat} {cA : ClassId} {C : String} {Tb : u_T} {N : Nat} {vs : List Value} {f : Nat → Option Nat} {i : Int32} (hty : j_ty G ti = some (cA, .object C)) (hci : G.2.2.1[ci]? = some (C, Tb, N)) (hd : decode Y.2.1 pc = .ok (.aastore, 1)) (hc0 : M.2.2 a = some (.inl (cA, n, .inr (.inr (.inr (.inr f)))))) (hv : M.2.2 v = some (.inr (ci, vs))) (hin : vp_in i n) (k : j_V K G Y (pc + 1) lv st (M.1, M.2.1, j_up M.2.2 a (.inl (cA, n, .inr (.inr (.inr (.inr (va_up f i.toNatClampNeg (some v))))))))) : j_V K G Y pc lv (.ref v :: .int i :: .ref a :: st) M := by
  obtain ⟨p, l, e, R, s, m, args, below, meth, c, Qs, t0, s0⟩ := K
  obtain ⟨T, D, cl, tys, z, zs⟩ := G
  obtain ⟨hx, hb, hr, hml, hnl, hnm, hown, hts, hgd, hE, h0, hrf, hrl, hrc, hrs⟩ := X
  intro H locs ls cells slots hH hS hL hc hs
  have ha := hH.2 a _ hc0
  have hlt : i.toNatClampNeg < n := Nat.not_le.mp fun q => hin (Or.inr q)
  have hi0 : ¬ i < 0 := fun q => hin (Or.inl q)
  obtain ⟨r', hr', cellV, g1, g2, g3, -⟩ := (hH.2 v _ hv).2
  have hcls := (hE.1.1 ci _ hci).2
  obtain ⟨kA, comp, k1, k2, k3, -⟩ := (hE.1.2 ti _ hty).2
  have hcomp : comp = D.1 ci := Option.some.inj (k3.symm.trans hcls.1)
  subst hcomp
  obtain ⟨kC, hkC, -⟩ := id hcls.2
  refine W.aast hx hb ha.2 (fun q h => by cases h) (fun h => by cases h) k1 k2 rfl hkC ⟨hi0, by show _ < (arrV _ _ _).slots.size; rw [arrV_size]; exact hlt⟩ g1 (fun q h => by rw [g3] at h; cases h) (by rw [g2]; exact hkC) (by rw [g2]; exact va_assign hcls) rfl rfl hd fun H1 e z oq => ?_
  refine k H1 _ ls cells slots (j_heap_put hH ha.1 ?_ z oq) (hS.put z oq ha.1) hL hc hs
  show H1[a]? = some (vp_cell _ _)
  rw [e]
  rw [vp_cell_q, vp_cell_q, arrV_store]
  congr 2
  funext q
  by_cases hq : q = i.toNatClampNeg
  · subst hq
    simp [updV, va_up, va_rf]
  · simp [updV, va_up, hq]
theorem v_alen {K : j_K} {G : j_G} {Y : j_Y} {d mc ms : Nat} (X : j_X K G Y d mc ms) {pc : Nat} {lv : List (Nat × Value)} {st : List Value} {M : j_M} {a ti : Nat} {cA : ClassId} {x : vp_A} {ty : FieldType} {v : Int32} (hty : j_ty G ti = some (cA, ty)) (hd : decode Y.2.1 pc = .ok (.arraylength, 1)) (hc0 : M.2.2 a = some (.inl (cA, x))) (hv : Int32.ofNat x.1 = v) (k : j_V K G Y (pc + 1) lv (.int v :: st) M) : j_V K G Y pc lv (.ref a :: st) M := by
  obtain ⟨p, l, e, R, s, m, args, below, meth, c, Qs, t0, s0⟩ := K
  obtain ⟨T, D, cl, tys, z, zs⟩ := G
  obtain ⟨hx, hb, hr, hml, hnl, hnm, hown, hts, hgd, hE, h0, hrf, hrl, hrc, hrs⟩ := X
  intro H locs ls cells slots hH hS hL hc hs
  exact va_alen hx hb hE.1 (j_one hH hc0) 0 ti rfl hty hv hd (k H locs ls cells slots hH hS hL hc hs)
theorem v_new {K : j_K} {G : j_G} {Y : j_Y} {d mc ms : Nat} (X : j_X K G Y d mc ms) {pc : Nat} {lv : List (Nat × Value)} {st : List Value} {M : j_M} {i ci : Nat} {C : String} {Tb : u_T} {N : Nat} {fs : List Value} (ty : Nat → FieldType) (hci : G.2.2.1[ci]? = some (C, Tb, N)) (hin : ∀ w ∈ u_ws C Tb N, w ∈ G.1) (hty : ∀ k, k < N → parseFieldDescriptor (Tb k).2.2.1 = some (ty k)) (hlk : Cond.classLink Y.1.cls i C ∈ G.1 ∧ Cond.instantiable C N ∈ G.1 ∧ Cond.initialized C ∈ G.1) (hfs : ∀ j, j < N → defaultValue (ty j) = vp_V fs j) (hd : decode Y.2.1 pc = .ok (.new i, 3)) {M0 : j_M} (B : j_S K M0) (hm : M.1 + 1 ≤ M0.1 + mc) (hm2 : M.2.1 + N ≤ M0.2.1 + ms) (k : j_V K G Y (pc + 3) lv (.ref M.1 :: st) (M.1 + 1, M.2.1 + N, j_up M.2.2 M.1 (.inr (ci, fs)))) : j_V K G Y pc lv st M := by
  obtain ⟨p, l, e, R, s, m, args, below, meth, c, Qs, t0, s0⟩ := K
  obtain ⟨T, D, cl, tys, z, zs⟩ := G
  obtain ⟨hx, hb, hr, hml, hnl, hnm, hown, hts, hgd, hE, h0, hrf, hrl, hrc, hrs⟩ := X
  intro H locs ls cells slots hH hS hL hc hs
  obtain ⟨hB1, hB2⟩ : t0 = M0.1 ∧ s0 = M0.2.1 := B
  obtain ⟨hlk1, hlk2, hlk3⟩ := hlk
  have hKn := hE.1.1 ci _ hci
  refine W.newcK hx hb hown (hts _ hlk1) (hts _ hlk2) (hts _ hlk3) rfl hd (by omega) (by omega) hKn.2.1 hH.1 fun H1 kC hkC e1 z1 o1 => ?_
  rw [← hH.1] at z1 o1
  refine k H1 locs ls (cells + 1) (slots + N) (j_heap_new hH (Nat.le_trans hE.2.2 hS.1) ⟨_, hci, (u_born ty hts hin hKn hkC e1 hty).to hfs⟩ z1 o1) ⟨by rw [z1]; exact Nat.le_trans hS.1 (Nat.le_succ _), fun x h1 h2 => (o1 x (Nat.lt_of_lt_of_le h1 hS.1)).trans (hS.2.1 x h1 h2), hS.2.2⟩ hL (by show cells + 1 + t0 = M.1 + 1; omega) (by show slots + N + s0 = M.2.1 + N; omega)
theorem v_newarray {K : j_K} {G : j_G} {Y : j_Y} {d mc ms : Nat} (X : j_X K G Y d mc ms) {pc : Nat} {lv : List (Nat × Value)} {st : List Value} {M : j_M} {ti n : Nat} {cA : ClassId} {x : Int32} {at0 : ArrayType} (hat : at0 = .int ∨ at0 = .boolean) (hty : j_ty G ti = some (cA, newarray.typeOf at0)) (hw : Cond.arrayClass (newarray.typeOf at0) ∈ G.1) (hd : decode Y.2.1 pc = .ok (.newarray at0, 2)) (hx0 : ¬ x < 0) (hxn : x.toNatClampNeg = n) (hn : n ≤ 1000000) {M0 : j_M} (B : j_S K M0) (hm : M.1 + 1 ≤ M0.1 + mc) (hm2 : M.2.1 + n ≤ M0.2.1 + ms) (k : j_V K G Y (pc + 2) lv (.ref M.1 :: st) (M.1 + 1, M.2.1 + n, j_up M.2.2 M.1 (.inl (cA, n, .inl (fun _ => 0))))) : j_V K G Y pc lv (.int x :: st) M := by
  obtain ⟨p, l, e, R, s, m, args, below, meth, c, Qs, t0, s0⟩ := K
  obtain ⟨T, D, cl, tys, z, zs⟩ := G
  obtain ⟨hx, hb, hr, hml, hnl, hnm, hown, hts, hgd, hE, h0, hrf, hrl, hrc, hrs⟩ := X
  intro H locs ls cells slots hH hS hL hc hs
  obtain ⟨hB1, hB2⟩ : t0 = M0.1 ∧ s0 = M0.2.1 := B
  obtain ⟨hAr, hRA⟩ := hE.1.2 ti _ hty
  refine va_newaK (atype := at0) hx hb (hts _ hw) rfl hd rfl hx0 hxn (by rcases hat with rfl | rfl; (show n * 4 ≤ _; omega); (show n * 1 ≤ _; omega)) (by omega) (by omega) hH.1 fun H1 cB e1 z1 o1 hArB hNm => ?_
  have hcc : cB = cA := by rcases hat with rfl | rfl <;> exact Option.some.inj (hNm.symm.trans hRA)
  subst hcc
  have e1 : H1[M.1]? = some (vp_cell cB (n, .inl (fun _ => 0))) := by rcases hat with rfl | rfl <;> exact e1
  rw [← hH.1] at z1 o1
  refine k H1 locs ls (cells + 1) (slots + n) (j_heap_new hH (Nat.le_trans hE.2.2 hS.1) e1 z1 o1) ⟨by rw [z1]; exact Nat.le_trans hS.1 (Nat.le_succ _), fun x h1 h2 => (o1 x (Nat.lt_of_lt_of_le h1 hS.1)).trans (hS.2.1 x h1 h2), hS.2.2⟩ hL (by show cells + 1 + _ = M.1 + 1; omega) (by show slots + n + s0 = M.2.1 + n; omega)
theorem v_anewarray {K : j_K} {G : j_G} {Y : j_Y} {d mc ms : Nat} (X : j_X K G Y d mc ms) {pc : Nat} {lv : List (Nat × Value)} {st : List Value} {M : j_M} {i ti n : Nat} {cA : ClassId} {C : String} {x : Int32} (hty : j_ty G ti = some (cA, .object C)) (hlk : Cond.classLink Y.1.cls i C ∈ G.1) (hao : C ∈ G.2.2.2.2.2.2.2.2) (hd : decode Y.2.1 pc = .ok (.anewarray i, 3)) (hx0 : ¬ x < 0) (hxn : x.toNatClampNeg = n) (hn : n ≤ 1000000) {M0 : j_M} (B : j_S K M0) (hm : M.1 + 1 ≤ M0.1 + mc) (hm2 : M.2.1 + n ≤ M0.2.1 + ms) (k : j_V K G Y (pc + 3) lv (.ref M.1 :: st) (M.1 + 1, M.2.1 + n, j_up M.2.2 M.1 (.inl (cA, n, .inr (.inr (.inr (.inr (fun _ => none)))))))) : j_V K G Y pc lv (.int x :: st) M := by
  obtain ⟨p, l, e, R, s, m, args, below, meth, c, Qs, t0, s0⟩ := K
  obtain ⟨T, D, cl, tys, z, zs⟩ := G
  obtain ⟨hx, hb, hr, hml, hnl, hnm, hown, hts, hgd, hE, h0, hrf, hrl, hrc, hrs⟩ := X
  intro H locs ls cells slots hH hS hL hc hs
  obtain ⟨hB1, hB2⟩ : t0 = M0.1 ∧ s0 = M0.2.1 := B
  subst hxn
  obtain ⟨hAr, kA0, comp0, f10, f20, f30, f40⟩ := hE.1.2 ti _ hty
  refine W.anew hx hb hown (hts _ hlk) (va_AO.use (hE.2.1.2.2.2 _ hao)) rfl hd rfl hx0 (by omega) (by omega) (by omega) fun cB kA comp f1 f2 f3 f4 => ?_
  have hcc : cB = cA := Option.some.inj (f1.symm.trans f40)
  subst hcc
  generalize hH1 : H.push ({ cls := cB, slots := Array.replicate x.toNatClampNeg .null, vm := .none } : Cell) = H1
  have z1 : H1.size = H.size + 1 := by rw [← hH1, Array.size_push]
  have e1 : H1[H.size]? = some (arrV cB x.toNatClampNeg (fun _ => .null)) := by rw [← hH1, Array.getElem?_push_size, ← arrV_new]
  have o1 : ∀ q : Nat, q < H.size → H1[q]? = H[q]? := fun q hq => by rw [← hH1, Array.getElem?_push, if_neg (Nat.ne_of_lt hq)]
  rw [hH.1] at e1
  have k2 := k H1 locs ls (cells + 1) (slots + x.toNatClampNeg) (j_heap_new hH (Nat.le_trans hE.2.2 hS.1) e1 z1 o1) ⟨by rw [z1]; exact Nat.le_trans hS.1 (Nat.le_succ _), fun x h1 h2 => (o1 x (Nat.lt_of_lt_of_le h1 hS.1)).trans (hS.2.1 x h1 h2), hS.2.2⟩ hL (by show cells + 1 + t0 = M.1 + 1; omega) (by show slots + x.toNatClampNeg + s0 = M.2.1 + x.toNatClampNeg; omega)
  rw [← hH.1] at k2
  exact k2
theorem v_getstatic {K : j_K} {G : j_G} {Y : j_Y} {d mc ms : Nat} (X : j_X K G Y d mc ms) {pc : Nat} {lv : List (Nat × Value)} {st : List Value} {M : j_M} {i a : Nat} {C n de : String} (hz : ((C, n, de), a) ∈ G.2.2.2.2.2.1) (hlk : Cond.fieldLink Y.1.cls i C n de ∈ G.1) (hd : decode Y.2.1 pc = .ok (.getstatic i, 3)) (k : j_V K G Y (pc + 3) lv (.ref a :: st) M) : j_V K G Y pc lv st M := by
  obtain ⟨p, l, e, R, s, m, args, below, meth, c, Qs, t0, s0⟩ := K
  obtain ⟨T, D, cl, tys, z, zs⟩ := G
  obtain ⟨hx, hb, hr, hml, hnl, hnm, hown, hts, hgd, hE, h0, hrf, hrl, hrc, hrs⟩ := X
  intro H locs ls cells slots hH hS hL hc hs
  exact va_gets hx hb (hE.2.1.1 _ hz) hS hown (hts _ hlk) (fun _ h => h) hd (k H locs ls cells slots hH hS hL hc hs)
theorem v_tload {K : j_K} {G : j_G} {Y : j_Y} {d mc ms : Nat} (X : j_X K G Y d mc ms) {pc : Nat} {lv : List (Nat × Value)} {st : List Value} {M : j_M} {a n : Nat} {f : Nat → Int32} {i : Int32} (hz : (a, n, f) ∈ G.2.2.2.2.2.2.1) (hd : decode Y.2.1 pc = .ok (.iaload, 1)) (hin : vp_in i n) (k : j_V K G Y (pc + 1) lv (.int (f i.toNatClampNeg) :: st) M) : j_V K G Y pc lv (.int i :: .ref a :: st) M := by
  obtain ⟨p, l, e, R, s, m, args, below, meth, c, Qs, t0, s0⟩ := K
  obtain ⟨T, D, cl, tys, z, zs⟩ := G
  obtain ⟨hx, hb, hr, hml, hnl, hnm, hown, hts, hgd, hE, h0, hrf, hrl, hrc, hrs⟩ := X
  intro H locs ls cells slots hH hS hL hc hs
  exact va_ti hx hb (hE.2.1.2.1 _ hz) hS hin rfl hd (k H locs ls cells slots hH hS hL hc hs)
theorem v_tlen {K : j_K} {G : j_G} {Y : j_Y} {d mc ms : Nat} (X : j_X K G Y d mc ms) {pc : Nat} {lv : List (Nat × Value)} {st : List Value} {M : j_M} {a n : Nat} {f : Nat → Int32} {v : Int32} (hz : (a, n, f) ∈ G.2.2.2.2.2.2.1) (hd : decode Y.2.1 pc = .ok (.arraylength, 1)) (hv : Int32.ofNat n = v) (k : j_V K G Y (pc + 1) lv (.int v :: st) M) : j_V K G Y pc lv (.ref a :: st) M := by
  obtain ⟨p, l, e, R, s, m, args, below, meth, c, Qs, t0, s0⟩ := K
  obtain ⟨T, D, cl, tys, z, zs⟩ := G
  obtain ⟨hx, hb, hr, hml, hnl, hnm, hown, hts, hgd, hE, h0, hrf, hrl, hrc, hrs⟩ := X
  intro H locs ls cells slots hH hS hL hc hs
  exact va_tlen hx hb (hE.2.1.2.1 _ hz) hS hv hd (k H locs ls cells slots hH hS hL hc hs)
theorem v_mmax {K : j_K} {G : j_G} {Y : j_Y} {d mc ms : Nat} (X : j_X K G Y d mc ms) {pc : Nat} {lv : List (Nat × Value)} {st : List Value} {M : j_M} {i : Nat} {x y : Int32} (hlk : Cond.methodLink Y.1.cls i Lib.Math.max.name ∈ G.1 ∧ Cond.static Lib.Math.max.name ∈ G.1 ∧ Cond.initialized "java/lang/Math" ∈ G.1 ∧ Cond.code Lib.Math.max.name Lib.Math.max.code 2 (some .int) ∈ G.1) (hd : decode Y.2.1 pc = .ok (.invokestatic i, 3)) (hd1 : 1 ≤ d) (hrest : (st.map fun v => v.category).sum ≤ 8) {M0 : j_M} (B : j_S K M0) (hm : M.1 ≤ M0.1 + mc) (hm2 : M.2.1 ≤ M0.2.1 + ms) (k : j_V K G Y (pc + 3) lv (.int (if x < y then y else x) :: st) M) : j_V K G Y pc lv (.int y :: .int x :: st) M := by
  obtain ⟨p, l, e, R, s, m, args, below, meth, c, Qs, t0, s0⟩ := K
  obtain ⟨T, D, cl, tys, z, zs⟩ := G
  obtain ⟨hx, hb, hr, hml, hnl, hnm, hown, hts, hgd, hE, h0, hrf, hrl, hrc, hrs⟩ := X
  intro H locs ls cells slots hH hS hL hc hs
  obtain ⟨hB1, hB2⟩ : t0 = M0.1 ∧ s0 = M0.2.1 := B
  obtain ⟨h1, h2, h3, h4⟩ := hlk
  exact va_mmax hx hb (hml.trans hL.1.symm) hown (hts _ h1) (hts _ h2) (hts _ h3) (hts _ h4) (by omega) (by omega) (by omega) (by omega) hd (k H locs ls cells slots hH hS hL hc hs)
theorem v_mmin {K : j_K} {G : j_G} {Y : j_Y} {d mc ms : Nat} (X : j_X K G Y d mc ms) {pc : Nat} {lv : List (Nat × Value)} {st : List Value} {M : j_M} {i : Nat} {x y : Int32} (hlk : Cond.methodLink Y.1.cls i Lib.Math.min.name ∈ G.1 ∧ Cond.static Lib.Math.min.name ∈ G.1 ∧ Cond.initialized "java/lang/Math" ∈ G.1 ∧ Cond.code Lib.Math.min.name Lib.Math.min.code 2 (some .int) ∈ G.1) (hd : decode Y.2.1 pc = .ok (.invokestatic i, 3)) (hd1 : 1 ≤ d) (hrest : (st.map fun v => v.category).sum ≤ 8) {M0 : j_M} (B : j_S K M0) (hm : M.1 ≤ M0.1 + mc) (hm2 : M.2.1 ≤ M0.2.1 + ms) (k : j_V K G Y (pc + 3) lv (.int (if y < x then y else x) :: st) M) : j_V K G Y pc lv (.int y :: .int x :: st) M := by
  obtain ⟨p, l, e, R, s, m, args, below, meth, c, Qs, t0, s0⟩ := K
  obtain ⟨T, D, cl, tys, z, zs⟩ := G
  obtain ⟨hx, hb, hr, hml, hnl, hnm, hown, hts, hgd, hE, h0, hrf, hrl, hrc, hrs⟩ := X
  intro H locs ls cells slots hH hS hL hc hs
  obtain ⟨hB1, hB2⟩ : t0 = M0.1 ∧ s0 = M0.2.1 := B
  obtain ⟨h1, h2, h3, h4⟩ := hlk
  exact va_mmin hx hb (hml.trans hL.1.symm) hown (hts _ h1) (hts _ h2) (hts _ h3) (hts _ h4) (by omega) (by omega) (by omega) (by omega) hd (k H locs ls cells slots hH hS hL hc hs)
theorem v_objinit {K : j_K} {G : j_G} {Y : j_Y} {d mc ms : Nat} (X : j_X K G Y d mc ms) {pc : Nat} {lv : List (Nat × Value)} {st : List Value} {M : j_M} {i a : Nat} (hlk : Cond.methodLink Y.1.cls i Lib.objectInit ∈ G.1 ∧ Cond.instanceMethod Lib.objectInit ∈ G.1 ∧ Cond.code Lib.objectInit ⟨#[0xb1]⟩ 1 none ∈ G.1) (hd : decode Y.2.1 pc = .ok (.invokespecial i, 3)) (hd1 : 1 ≤ d) (hrest : (st.map fun v => v.category).sum ≤ 8) (k : j_V K G Y (pc + 3) lv st M) : j_V K G Y pc lv (.ref a :: st) M := by
  obtain ⟨p, l, e, R, s, m, args, below, meth, c, Qs, t0, s0⟩ := K
  obtain ⟨T, D, cl, tys, z, zs⟩ := G
  obtain ⟨hx, hb, hr, hml, hnl, hnm, hown, hts, hgd, hE, h0, hrf, hrl, hrc, hrs⟩ := X
  intro H locs ls cells slots hH hS hL hc hs
  exact W.objInit hx hb hown (hts _ hlk.1) (hts _ hlk.2.1) (hts _ hlk.2.2) rfl (hL.1.trans hml.symm) rfl hd (by omega) (by show 2 * 0 + _ + 12 ≤ _; omega) (k H locs ls cells slots hH hS hL hc hs)
theorem v_iret {K : j_K} {G : j_G} {Y : j_Y} {d mc ms : Nat} (X : j_X K G Y d mc ms) {pc : Nat} {lv : List (Nat × Value)} {M : j_M} {Q : Option Value → j_M → Prop} {M0 : j_M} (E : j_R K G M0 mc ms Q) {ty : FieldType} {v : Int32} (hd : decode Y.2.1 pc = .ok (.ireturn, 1)) (hty : Y.2.2.2 = some ty) (hn : narrow ty (.int v) = .int v) (hq : Q (some (.int v)) M) (hm : M.1 = M0.1 + mc) (hm2 : M.2.1 = M0.2.1 + ms) : j_V K G Y pc lv [.int v] M := by
  obtain ⟨p, l, e, R, s, m, args, below, meth, c, Qs, t0, s0⟩ := K
  obtain ⟨T, D, cl, tys, z, zs⟩ := G
  obtain ⟨hx, hb, hr, hml, hnl, hnm, hown, hts, hgd, hE, h0, hrf, hrl, hrc, hrs⟩ := X
  intro H locs ls cells slots hH hS hL hc hs
  obtain ⟨rfl, hB1, hB2⟩ : Qs = MQ below (j_Qc D cl z M0.1 M0.2.1 mc ms Q) args s mc ms (j_A z) ∧ t0 = M0.1 ∧ s0 = M0.2.1 := E
  have hcm : cells = mc := by omega
  have hsm : slots = ms := by omega
  subst hcm
  subst hsm
  exact W.zret hx hb (hr.trans hty) hn (fun t ht _ => ⟨⟨_, M, rfl, hq, hm, hm2, by rw [ht]; exact hH⟩, hS.F ht⟩) (fun q hq => hS.2.2 q hq) hd hnl
theorem v_vret {K : j_K} {G : j_G} {Y : j_Y} {d mc ms : Nat} (X : j_X K G Y d mc ms) {pc : Nat} {lv : List (Nat × Value)} {M : j_M} {Q : Option Value → j_M → Prop} {M0 : j_M} (E : j_R K G M0 mc ms Q) (hd : decode Y.2.1 pc = .ok (.return_, 1)) (hty : Y.2.2.2 = none) (hq : Q none M) (hm : M.1 = M0.1 + mc) (hm2 : M.2.1 = M0.2.1 + ms) : j_V K G Y pc lv [] M := by
  obtain ⟨p, l, e, R, s, m, args, below, meth, c, Qs, t0, s0⟩ := K
  obtain ⟨T, D, cl, tys, z, zs⟩ := G
  obtain ⟨hx, hb, hr, hml, hnl, hnm, hown, hts, hgd, hE, h0, hrf, hrl, hrc, hrs⟩ := X
  intro H locs ls cells slots hH hS hL hc hs
  obtain ⟨rfl, hB1, hB2⟩ : Qs = MQ below (j_Qc D cl z M0.1 M0.2.1 mc ms Q) args s mc ms (j_A z) ∧ t0 = M0.1 ∧ s0 = M0.2.1 := E
  have hcm : cells = mc := by omega
  have hsm : slots = ms := by omega
  subst hcm
  subst hsm
  exact W.vret hx hb (hr.trans hty) (fun t ht _ => ⟨⟨_, M, rfl, hq, hm, hm2, by rw [ht]; exact hH⟩, hS.F ht⟩) (fun q hq => hS.2.2 q hq) hd hnl
theorem v_aret {K : j_K} {G : j_G} {Y : j_Y} {d mc ms : Nat} (X : j_X K G Y d mc ms) {pc : Nat} {lv : List (Nat × Value)} {M : j_M} {Q : Option Value → j_M → Prop} {M0 : j_M} (E : j_R K G M0 mc ms Q) {C : String} {v : Value} (hd : decode Y.2.1 pc = .ok (.areturn, 1)) (hty : Y.2.2.2 = some (.object C)) (hv : v = .null ∨ ∃ a, v = .ref a) (hq : Q (some v) M) (hm : M.1 = M0.1 + mc) (hm2 : M.2.1 = M0.2.1 + ms) : j_V K G Y pc lv [v] M := by
  obtain ⟨p, l, e, R, s, m, args, below, meth, c, Qs, t0, s0⟩ := K
  obtain ⟨T, D, cl, tys, z, zs⟩ := G
  obtain ⟨hx, hb, hr, hml, hnl, hnm, hown, hts, hgd, hE, h0, hrf, hrl, hrc, hrs⟩ := X
  intro H locs ls cells slots hH hS hL hc hs
  obtain ⟨rfl, hB1, hB2⟩ : Qs = MQ below (j_Qc D cl z M0.1 M0.2.1 mc ms Q) args s mc ms (j_A z) ∧ t0 = M0.1 ∧ s0 = M0.2.1 := E
  have hcm : cells = mc := by omega
  have hsm : slots = ms := by omega
  subst hcm
  subst hsm
  exact W.aret hx hb (hr.trans hty) (Or.inl ⟨C, rfl⟩) hv (fun t ht _ => ⟨⟨_, M, rfl, hq, hm, hm2, by rw [ht]; exact hH⟩, hS.F ht⟩) (fun q hq => hS.2.2 q hq) hd hnl
theorem j_of {l : Launch} {T : List Cond} {D : va_G} {cl : List vw_C} {tys : List (ClassId × FieldType)} {z : Nat} {zs : j_Zs} {Y : j_Y} {d mc ms : Nat} {av : List Value} {M0 : j_M} {Q : Option Value → j_M → Prop} (lv0 : List (Nat × Value)) (hgd : j_good T) (hy : plainName Y.1.cls = true) (hav : (lg_sl av).length ≤ Y.2.2.1) (hlv : lv_args 0 av = lv0)
    (body : ∀ K, j_X K (T, D, cl, tys, z, zs) Y d mc ms → j_R K (T, D, cl, tys, z, zs) M0 mc ms Q → j_S K M0 → j_V K (T, D, cl, tys, z, zs) Y 0 lv0 [] M0) : j_C l (T, D, cl, tys, z, zs) Y d av M0 mc ms Q := by
  subst hlv
  refine Met.ofW (cc := Y.2.1) (maxL := Y.2.2.1) (ret := Y.2.2.2) hy rfl ?_
  intro p e s m args below meth c s₁ B hml hv
  obtain ⟨rfl, hE, hH⟩ := hv
  have hts := atoms_spec (ws := Cond.code Y.1 Y.2.1 Y.2.2.1 Y.2.2.2 :: T) B.pre
  rw [lg_entry_eq]
  exact body (p, l, e, j_rm d mc ms, s, m, av.toArray, below, meth, c, MQ below (j_Qc D cl z M0.1 M0.2.1 mc ms Q) av.toArray s mc ms (j_A z), M0.1, M0.2.1)
    ⟨B.exec, B.bytes, B.returns, hml, B.notSynchronized, (name_of_methodNamed B.named B.method).1, findClass_of_methodNamed B.named, fun w hw => hts w (List.mem_cons_of_mem _ hw), hgd, hE, hH.1, Nat.le_refl _, Nat.le_refl _, Nat.le_refl _, Nat.le_refl _⟩ ⟨rfl, rfl, rfl⟩ ⟨rfl, rfl⟩
    s.heap [] _ 0 0 hH va_S.rf (lv_entry av hav) (Nat.zero_add _) (Nat.zero_add _)
/-- behind a call -/
theorem j_call {p : Program} {l : Launch} {e : Env} {R : Room} {s : State} {m : MethodId} {args : Array Value} {below : List Frame} {meth : Method} {c : Code} {Qs : State → Prop} {t0 s0 : Nat} {G : j_G} {Y : j_Y} {pc : Nat} {lv : List (Nat × Value)} {st0 rest : List Value} {M : j_M} {H : Heap} {locs : List Loc} {ls : Array Slot} {cells slots mc1 ms1 : Nat} {Q1 : Option Value → j_M → Prop} {a : Array Value}
    (hr : va_Run p l e R s m args below meth c H locs cells slots mc1 ms1 (F0 m pc ls st0) rest (j_Qc G.2.1 G.2.2.1 G.2.2.2.2.1 M.1 M.2.1 mc1 ms1 Q1 a) (j_A G.2.2.2.2.1)) (hS : va_S (j_A G.2.2.2.2.1) s.heap H locs) (hL : lv_has ls Y.2.2.1 lv) (hc : cells + t0 = M.1) (hs : slots + s0 = M.2.1)
    (kk : ∀ (r : Option Value) (M1 : j_M), Q1 r M1 → M1.1 = M.1 + mc1 → M1.2.1 = M.2.1 + ms1 → j_V (p, l, e, R, s, m, args, below, meth, c, Qs, t0, s0) G Y (pc + 3) lv (r.toList ++ rest) M1) : W p l e R s m args below meth c H locs cells slots Qs (F0 m pc ls st0) := by
  obtain ⟨T, D, cl, tys, z, zs⟩ := G
  intro T0 hT X
  obtain ⟨v, st₀, t, T', L, h0, X', hL2, e1, e2, ⟨⟨r, M1, hv, hq, ht1, hs1, hH1⟩, hz, hk⟩, st⟩ := hr T0 hT X
  cases hv
  rw [h0] at hz hk
  obtain ⟨t2, a1, b1⟩ := kk _ M1 hq ht1 hs1 T'.heap (locs ++ L) ls (cells + mc1) (slots + ms1) (by rw [e1]; exact hH1)
    ⟨Nat.le_trans hS.1 (by rw [e1]; exact hz), fun q h1 h2 => by rw [e1, hk q (Nat.lt_of_lt_of_le h1 hS.1) h2]; exact hS.2.1 q h1 h2, fun q hq => by
      rcases List.mem_append.mp hq with h | h
      · exact hS.2.2 q h
      · exact hL2 q h⟩ hL (by omega) (by omega) T' rfl X'
  exact ⟨t2, st t2 a1, b1⟩
/-- the links of a call -/
def j_L (G : j_G) (own : String) (i n : Nat) (Y1 : j_Y) (k : Nat) : Prop := Cond.methodLink own i Y1.1 ∈ G.1 ∧ Cond.initialized Y1.1.cls ∈ G.1 ∧ Cond.code Y1.1 Y1.2.1 Y1.2.2.1 Y1.2.2.2 ∈ G.1 ∧ Y1.2.2.1 ≤ 13 ∧
  Y1.1.cls ≠ "java/lang/invoke/MethodHandle" ∧ Y1.1.cls ≠ "java/lang/invoke/VarHandle" ∧ (parseMethodDescriptor Y1.1.desc).map (fun d => d.parameters.length) = some n ∧
  (k = 0 → Cond.instanceMethod Y1.1 ∈ G.1 ∧ Cond.selects Y1.1.cls Y1.1 Y1.1 ∈ G.1) ∧ (k = 1 → Cond.static Y1.1 ∈ G.1) ∧ (k = 2 → Y1.1.name = "<init>" ∧ Y1.2.2.2 = none ∧ Cond.instanceMethod Y1.1 ∈ G.1)
theorem j_pre {D : va_G} {cl : List vw_C} {tys : List (ClassId × FieldType)} {z : Nat} {zs : j_Zs} {s : State} {H : Heap} {M : j_M} {locs : List Loc} {As : List Value} (hE : j_E D cl tys z zs s) (hH : j_heap D cl z M H) (hS : va_S (j_A z) s.heap H locs) : PreS s H (va_Pc As (fun U => j_E D cl tys z zs U ∧ j_heap D cl z M U.heap)) As := by
  refine ⟨fun a U g mk q => ⟨q.1, j_E_moved q.2.1 (Vm.Alike.refl U.vm) (Or.inr rfl) q.2.1.2.2 (fun _ _ _ => rfl), q.2.2⟩, fun U hU hW => ⟨rfl, ?_, by rw [hU]; exact hH⟩⟩
  exact j_E_moved hE hW.alike (Or.inl hW) (by rw [hU]; exact Nat.le_trans hE.2.2 hS.1) (fun q h1 h2 => by rw [hU]; exact hS.2.1 q h1 h2)
theorem v_callV {K : j_K} {G : j_G} {Y : j_Y} {d mc ms : Nat} (X : j_X K G Y d mc ms) {pc : Nat} {lv : List (Nat × Value)} {st : List Value} {M : j_M} {i n d1 mc1 ms1 : Nat} {Y1 : j_Y} {Q1 : Option Value → j_M → Prop} {As rest : List Value} {b ci N : Nat} {Tb : u_T} {fs : List Value} (lk : j_L G Y.1.cls i n Y1 0) (hC : ∀ l, j_C l G Y1 d1 (.ref b :: As) M mc1 ms1 Q1) (hci : G.2.2.1[ci]? = some (Y1.1.cls, Tb, N)) (hc0 : M.2.2 b = some (.inr (ci, fs))) (hd : decode Y.2.1 pc = .ok (.invokevirtual i, 3)) (hst : st = As.reverse ++ .ref b :: rest) {M0 : j_M} (B : j_S K M0) (hd1 : d1 + 1 ≤ d) (hm : M.1 + mc1 ≤ M0.1 + mc) (hm2 : M.2.1 + ms1 ≤ M0.2.1 + ms) (hn : As.length = n) (hrest : (rest.map fun v => v.category).sum ≤ 8) (kk : ∀ (r : Option Value) (M1 : j_M), Q1 r M1 → M1.1 = M.1 + mc1 → M1.2.1 = M.2.1 + ms1 → j_V K G Y (pc + 3) lv (r.toList ++ rest) M1) : j_V K G Y pc lv st M := by
  obtain ⟨p, l, e, R, s, m, args, below, meth, c, Qs, t0, s0⟩ := K
  obtain ⟨T, D, cl, tys, z, zs⟩ := G
  obtain ⟨hx, hb, hr, hml, hnl, hnm, hown, hts, hgd, hE, h0, hrf, hrl, hrc, hrs⟩ := X
  intro H locs ls cells slots hH hS hL hc hs
  obtain ⟨hB1, hB2⟩ : t0 = M0.1 ∧ s0 = M0.2.1 := B
  obtain ⟨hl1, hl2, hl3, hl4, hl5, hl6, hl7, hl8, -, -⟩ := lk
  obtain ⟨hl8, hl9⟩ := hl8 rfl
  subst hst
  have hGi : GoodIn T (Cond.code Y1.1 Y1.2.1 Y1.2.2.1 Y1.2.2.2 :: T) := (fun w hw => by rcases List.mem_cons.mp hw with rfl | h; exact ⟨hl3, hgd _ hl3⟩; exact ⟨h, hgd _ h⟩)
  have hpre := j_pre (As := .ref b :: As) hE hH hS
  refine j_call (G := (T, D, cl, tys, z, zs)) (va_runV (As := As) (rest := rest) ⟨hx, hb, hml, hown, hts⟩ (hC l) (C := Y1.1.cls) ⟨callB_of n hts hGi rfl rfl rfl (hts _ hl2) (hts _ hl1) ⟨hl5, hl6, hl7⟩ ⟨by show d1 + 1 ≤ _; omega, by show 8 + (Y1.2.2.1 + 11) + 32 * d1 ≤ _; omega⟩, hts _ hl8, hts _ hl9⟩ ⟨hpre.1, va_recv hE.1 (j_one hH hc0) (q0 := 0) hci rfl, hpre.2⟩ rfl hn hL.1 rfl (lv_room hrest) hd ⟨by omega, by omega⟩) hS hL hc hs kk
theorem v_callS {K : j_K} {G : j_G} {Y : j_Y} {d mc ms : Nat} (X : j_X K G Y d mc ms) {pc : Nat} {lv : List (Nat × Value)} {st : List Value} {M : j_M} {i n d1 mc1 ms1 : Nat} {Y1 : j_Y} {Q1 : Option Value → j_M → Prop} {As rest : List Value} (lk : j_L G Y.1.cls i n Y1 1) (hC : ∀ l, j_C l G Y1 d1 As M mc1 ms1 Q1) (hd : decode Y.2.1 pc = .ok (.invokestatic i, 3)) (hst : st = As.reverse ++ rest) {M0 : j_M} (B : j_S K M0) (hd1 : d1 + 1 ≤ d) (hm : M.1 + mc1 ≤ M0.1 + mc) (hm2 : M.2.1 + ms1 ≤ M0.2.1 + ms) (hn : As.length = n) (hrest : (rest.map fun v => v.category).sum ≤ 8) (kk : ∀ (r : Option Value) (M1 : j_M), Q1 r M1 → M1.1 = M.1 + mc1 → M1.2.1 = M.2.1 + ms1 → j_V K G Y (pc + 3) lv (r.toList ++ rest) M1) : j_V K G Y pc lv st M := by
  obtain ⟨p, l, e, R, s, m, args, below, meth, c, Qs, t0, s0⟩ := K
  obtain ⟨T, D, cl, tys, z, zs⟩ := G
  obtain ⟨hx, hb, hr, hml, hnl, hnm, hown, hts, hgd, hE, h0, hrf, hrl, hrc, hrs⟩ := X
  intro H locs ls cells slots hH hS hL hc hs
  obtain ⟨hB1, hB2⟩ : t0 = M0.1 ∧ s0 = M0.2.1 := B
  obtain ⟨hl1, hl2, hl3, hl4, hl5, hl6, hl7, -, hl8, -⟩ := lk
  have hl8 := hl8 rfl
  subst hst
  have hGi : GoodIn T (Cond.code Y1.1 Y1.2.1 Y1.2.2.1 Y1.2.2.2 :: T) := (fun w hw => by rcases List.mem_cons.mp hw with rfl | h; exact ⟨hl3, hgd _ hl3⟩; exact ⟨h, hgd _ h⟩)
  refine j_call (G := (T, D, cl, tys, z, zs)) (va_runS (As := As) (rest := rest) ⟨hx, hb, hml, hown, hts⟩ (hC l) ⟨callB_of n hts hGi rfl rfl rfl (hts _ hl2) (hts _ hl1) ⟨hl5, hl6, hl7⟩ ⟨by show d1 + 1 ≤ _; omega, by show 8 + (Y1.2.2.1 + 11) + 32 * d1 ≤ _; omega⟩, hts _ hl8⟩ (j_pre hE hH hS) rfl hn hL.1 rfl (lv_room hrest) hd ⟨by omega, by omega⟩) hS hL hc hs kk
theorem v_callI {K : j_K} {G : j_G} {Y : j_Y} {d mc ms : Nat} (X : j_X K G Y d mc ms) {pc : Nat} {lv : List (Nat × Value)} {st : List Value} {M : j_M} {i n d1 mc1 ms1 : Nat} {Y1 : j_Y} {Q1 : Option Value → j_M → Prop} {As rest : List Value} {b : Nat} (lk : j_L G Y.1.cls i n Y1 2) (hC : ∀ l, j_C l G Y1 d1 (.ref b :: As) M mc1 ms1 Q1) (hd : decode Y.2.1 pc = .ok (.invokespecial i, 3)) (hst : st = As.reverse ++ .ref b :: rest) {M0 : j_M} (B : j_S K M0) (hd1 : d1 + 1 ≤ d) (hm : M.1 + mc1 ≤ M0.1 + mc) (hm2 : M.2.1 + ms1 ≤ M0.2.1 + ms) (hn : As.length = n) (hrest : (rest.map fun v => v.category).sum ≤ 8) (kk : ∀ (r : Option Value) (M1 : j_M), Q1 r M1 → M1.1 = M.1 + mc1 → M1.2.1 = M.2.1 + ms1 → j_V K G Y (pc + 3) lv (r.toList ++ rest) M1) : j_V K G Y pc lv st M := by
  obtain ⟨p, l, e, R, s, m, args, below, meth, c, Qs, t0, s0⟩ := K
  obtain ⟨T, D, cl, tys, z, zs⟩ := G
  obtain ⟨hx, hb, hr, hml, hnl, hnm, hown, hts, hgd, hE, h0, hrf, hrl, hrc, hrs⟩ := X
  intro H locs ls cells slots hH hS hL hc hs
  obtain ⟨hB1, hB2⟩ : t0 = M0.1 ∧ s0 = M0.2.1 := B
  obtain ⟨hl1, hl2, hl3, hl4, hl5, hl6, hl7, -, -, hl8⟩ := lk
  obtain ⟨hl8, hl9, hl10⟩ := hl8 rfl
  subst hst
  have hGi : GoodIn T (Cond.code Y1.1 Y1.2.1 Y1.2.2.1 Y1.2.2.2 :: T) := (fun w hw => by rcases List.mem_cons.mp hw with rfl | h; exact ⟨hl3, hgd _ hl3⟩; exact ⟨h, hgd _ h⟩)
  obtain ⟨y1, b1, L1, r1⟩ := Y1
  have hl9 : r1 = none := hl9
  subst hl9
  have hl4 : L1 ≤ 13 := hl4
  refine j_call (G := (T, D, cl, tys, z, zs)) (va_runI (As := As) (rest := rest) ⟨hx, hb, hml, hown, hts⟩ (hC l) ⟨callB_of n hts hGi rfl rfl rfl (hts _ hl2) (hts _ hl1) ⟨hl5, hl6, hl7⟩ ⟨by show d1 + 1 ≤ _; omega, by show 8 + (L1 + 11) + 32 * d1 ≤ _; omega⟩, hl8, hts _ hl10⟩ (j_pre hE hH hS) rfl hn hL.1 rfl (lv_room hrest) hd ⟨by omega, by omega⟩) hS hL hc hs kk
theorem v_callIN {K : j_K} {G : j_G} {Y : j_Y} {d mc ms : Nat} (X : j_X K G Y d mc ms) {pc : Nat} {lv : List (Nat × Value)} {st : List Value} {M : j_M} {i n d1 mc1 ms1 : Nat} {Y1 : j_Y} {Q1 : Option Value → j_M → Prop} {As rest : List Value} {b : Nat} {host : String} (hnest : (Y.1.cls, i, Y1.1, host) ∈ G.2.2.2.2.2.2.2.1) (lk : Cond.initialized Y1.1.cls ∈ G.1 ∧ Cond.code Y1.1 Y1.2.1 Y1.2.2.1 Y1.2.2.2 ∈ G.1 ∧ Y1.2.2.1 ≤ 13 ∧ Y1.1.cls ≠ "java/lang/invoke/MethodHandle" ∧ Y1.1.cls ≠ "java/lang/invoke/VarHandle" ∧ (parseMethodDescriptor Y1.1.desc).map (fun d => d.parameters.length) = some n ∧ Y1.1.name = "<init>" ∧ Y1.2.2.2 = none ∧ Cond.instanceMethod Y1.1 ∈ G.1) (hC : ∀ l, j_C l G Y1 d1 (.ref b :: As) M mc1 ms1 Q1) (hd : decode Y.2.1 pc = .ok (.invokespecial i, 3)) (hst : st = As.reverse ++ .ref b :: rest) {M0 : j_M} (B : j_S K M0) (hd1 : d1 + 1 ≤ d) (hm : M.1 + mc1 ≤ M0.1 + mc) (hm2 : M.2.1 + ms1 ≤ M0.2.1 + ms) (hn : As.length = n) (hrest : (rest.map fun v => v.category).sum ≤ 8) (kk : ∀ (r : Option Value) (M1 : j_M), Q1 r M1 → M1.1 = M.1 + mc1 → M1.2.1 = M.2.1 + ms1 → j_V K G Y (pc + 3) lv (r.toList ++ rest) M1) : j_V K G Y pc lv st M := by
  obtain ⟨p, l, e, R, s, m, args, below, meth, c, Qs, t0, s0⟩ := K
  obtain ⟨T, D, cl, tys, z, zs⟩ := G
  obtain ⟨hx, hb, hr, hml, hnl, hnm, hown, hts, hgd, hE, h0, hrf, hrl, hrc, hrs⟩ := X
  intro H locs ls cells slots hH hS hL hc hs
  obtain ⟨hB1, hB2⟩ : t0 = M0.1 ∧ s0 = M0.2.1 := B
  obtain ⟨hl2, hl3, hl4, hl5, hl6, hl7, hl8, hl9, hl10⟩ := lk
  subst hst
  have hGi : GoodIn T (Cond.code Y1.1 Y1.2.1 Y1.2.2.1 Y1.2.2.2 :: T) := (fun w hw => by rcases List.mem_cons.mp hw with rfl | h; exact ⟨hl3, hgd _ hl3⟩; exact ⟨h, hgd _ h⟩)
  obtain ⟨y1, b1, L1, r1⟩ := Y1
  have hl9 : r1 = none := hl9
  subst hl9
  have hl4 : L1 ≤ 13 := hl4
  refine j_call (G := (T, D, cl, tys, z, zs)) (va_runIN (As := As) (rest := rest) ⟨hx, hb, hml, hown, hts⟩ (hC l) ⟨va_cnB n hts hGi rfl rfl rfl (hE.2.1.2.2.1 _ hnest) (hts _ hl2) ⟨hl5, hl6, hl7⟩ ⟨by show d1 + 1 ≤ _; omega, by show 8 + (L1 + 11) + 32 * d1 ≤ _; omega⟩, hl8, hts _ hl10⟩ (j_pre hE hH hS) rfl hn hL.1 rfl (lv_room hrest) hd ⟨by omega, by omega⟩) hS hL hc hs kk
