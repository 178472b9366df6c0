/-! Constructors: the first n cells of the table are there; in a place of a reference 0 stands for null. -/
def p_val (z ix : Nat) (v : Int32) (d : Option (Nat × (Nat → Nat))) : Value := match d with
  | none => Value.int v
  | some (k, g) => if v = 0 then .null else .ref (ad z k (g ix))
def p_slots (z ix : Nat) (f : Nat → Int32) (sl : List (Option (Nat × (Nat → Nat)))) : List Value := sl.mapIdx (fun j d => match d with
  | none => Value.int (f j)
  | some (k, g) => if f j = 0 then .null else .ref (ad z k (g ix)))
def p_cell (ca : Nat → ClassId) (z kd ix : Nat) (f : Nat → Int32) : va_E := match kt kd with
  | .inl (ci, sl) => .inr (ci, p_slots z ix f sl)
  | .inr (.inl (ti, n)) => .inl (ca ti, n, .inl f)
  | .inr (.inr (ti, n, k, g)) => .inl (ca ti, n, .inr (.inr (.inr (.inr (fun j => if j < n ∧ ¬ f j = 0 then some (ad z k (g ix j)) else none)))))
def p_lay (ca : Nat → ClassId) (z n : Nat) (s : k_S) : Nat → Option va_E := fun a => if a < z ∨ z + n ≤ a then none else (tab[a - z]?).map (fun q => p_cell ca z q.1 q.2 (s q.1 q.2))
def p_M (ca : Nat → ClassId) (z n q : Nat) (s : k_S) : j_M := (z + n, q, p_lay ca z n s)
theorem p_at {ca : Nat → ClassId} {z n q : Nat} {s : k_S} {kd ix : Nat} (h : ix < cnt kd) (hn : off kd ix < n) : (p_M ca z n q s).2.2 (ad z kd ix) = some (p_cell ca z kd ix (s kd ix)) := by
  show (if z + off kd ix < z ∨ z + n ≤ z + off kd ix then none else (tab[z + off kd ix - z]?).map (fun q => p_cell ca z q.1 q.2 (s q.1 q.2))) = _
  rw [if_neg (by omega), Nat.add_sub_cancel_left, k_valid kd ix h]
  rfl
theorem p_up {ca : Nat → ClassId} {z n : Nat} {s : k_S} {kd ix : Nat} {f : Nat → Int32} (h : ix < cnt kd) (hn : off kd ix < n) : j_up (p_lay ca z n s) (ad z kd ix) (p_cell ca z kd ix f) = p_lay ca z n (k_up s kd ix f) := by
  funext a
  show (if a = z + off kd ix then some (p_cell ca z kd ix f) else p_lay ca z n s a) = _
  by_cases ha : a = z + off kd ix
  · rw [if_pos ha, ha]
    unfold p_lay
    rw [if_neg (by omega), Nat.add_sub_cancel_left, k_valid kd ix h]
    simp [k_up]
  · rw [if_neg ha]
    unfold p_lay
    by_cases hz : a < z ∨ z + n ≤ a
    · rw [if_pos hz, if_pos hz]
    · rw [if_neg hz, if_neg hz]
      cases ht : tab[a - z]? with
      | none => rfl
      | some q =>
        have hi := k_inj (a - z) q ht
        have hne : ¬ (q.1 = kd ∧ q.2 = ix) := fun hq => ha (by rw [hq.1, hq.2] at hi; omega)
        simp [k_up, hne]
theorem p_new {ca : Nat → ClassId} {z n : Nat} {s : k_S} {kd ix : Nat} {f : Nat → Int32} (h : ix < cnt kd) (hn : off kd ix = n) : j_up (p_lay ca z n s) (z + n) (p_cell ca z kd ix f) = p_lay ca z (n + 1) (k_up s kd ix f) := by
  subst hn
  funext a
  show (if a = z + off kd ix then some (p_cell ca z kd ix f) else p_lay ca z (off kd ix) s a) = _
  by_cases ha : a = z + off kd ix
  · rw [if_pos ha, ha]
    unfold p_lay
    rw [if_neg (by omega), Nat.add_sub_cancel_left, k_valid kd ix h]
    simp [k_up]
  · rw [if_neg ha]
    unfold p_lay
    by_cases hz : a < z ∨ z + off kd ix ≤ a
    · rw [if_pos hz, if_pos (by omega)]
    · rw [if_neg hz, if_neg (by omega)]
      cases ht : tab[a - z]? with
      | none => rfl
      | some q =>
        have hi := k_inj (a - z) q ht
        have hne : ¬ (q.1 = kd ∧ q.2 = ix) := fun hq => ha (by rw [hq.1, hq.2] at hi; omega)
        simp [k_up, hne]
theorem p_slots_ref {z ix : Nat} {f : Nat → Int32} {sl : List (Option (Nat × (Nat → Nat)))} {j k : Nat} {g : Nat → Nat} (h : sl[j]? = some (some (k, g))) (hf : ¬ f j = 0) : (p_slots z ix f sl)[j]? = some (.ref (ad z k (g ix))) := by
  simp [p_slots, List.getElem?_mapIdx, h, hf]
theorem p_slots_get {z ix : Nat} {f : Nat → Int32} {sl : List (Option (Nat × (Nat → Nat)))} {j : Nat} (h : sl[j]? = some none) : (p_slots z ix f sl)[j]? = some (.int (f j)) := by
  simp [p_slots, List.getElem?_mapIdx, h]
theorem p_slots_len {z ix : Nat} {f : Nat → Int32} {sl : List (Option (Nat × (Nat → Nat)))} {j : Nat} {d : Option (Nat × (Nat → Nat))} (h : sl[j]? = some d) : j < (p_slots z ix f sl).length := by
  have hl : j < sl.length := (List.getElem?_eq_some_iff.mp h).1
  simpa [p_slots] using hl
theorem p_slots_set {z ix : Nat} {f : Nat → Int32} {sl : List (Option (Nat × (Nat → Nat)))} {j : Nat} {v : Int32} {w : Value} {d : Option (Nat × (Nat → Nat))} (h : sl[j]? = some d) (hw : p_val z ix v d = w) : (p_slots z ix f sl).set j w = p_slots z ix (upd f j v) sl := by
  subst hw
  apply List.ext_getElem?
  intro i
  have hl : j < sl.length := (List.getElem?_eq_some_iff.mp h).1
  by_cases hi : j = i
  · subst hi
    rw [List.getElem?_set_self (by simpa [p_slots] using hl)]
    cases d with
    | none => simp [p_slots, p_val, List.getElem?_mapIdx, h, upd]
    | some q => simp [p_slots, p_val, List.getElem?_mapIdx, h, upd]
  · rw [List.getElem?_set_ne hi]
    simp only [p_slots, List.getElem?_mapIdx]
    cases hs : sl[i]? with
    | none => rfl
    | some d =>
      cases d with
      | none => simp [upd, Ne.symm hi]
      | some q => simp [upd, Ne.symm hi]
/-- a constructor's contract: from n cells to n + mc, ms slots more -/
def p_C (D : va_G) (z : Nat) (zs : j_Zs) (ca : Nat → ClassId) (Y : j_Y) (d : Nat) (av : List Value) (n q mc ms : Nat) (s : k_S) (F : k_S → Prop) : Prop := ∀ l, j_C l (k_G D ca z zs) Y d av (p_M ca z n q s) mc ms (fun r M => r = none ∧ ∃ s', M = p_M ca z (n + mc) (q + ms) s' ∧ F s')
def p_R (K : j_K) (D : va_G) (z : Nat) (zs : j_Zs) (ca : Nat → ClassId) (n q mc ms : Nat) (F : k_S → Prop) : Prop := ∃ s0, j_R K (k_G D ca z zs) (p_M ca z n q s0) mc ms (fun r M => r = none ∧ ∃ s', M = p_M ca z (n + mc) (q + ms) s' ∧ F s')
def p_B (K : j_K) (z n q : Nat) : Prop := ∀ (ca : Nat → ClassId) (s : k_S), j_S K (p_M ca z n q s)
theorem p_of {D : va_G} {z : Nat} {zs : j_Zs} {ca : Nat → ClassId} {Y : j_Y} {d n q mc ms : Nat} {av : List Value} {s : k_S} {F : k_S → Prop} (lv0 : List (Nat × Value)) (hy : plainName Y.1.cls = true) (hav : (lg_sl av).length ≤ Y.2.2.1) (hlv : lv_args 0 av = lv0)
    (body : ∀ K, j_X K (k_G D ca z zs) Y d mc ms → p_R K D z zs ca n q mc ms F → p_B K z n q → j_V K (k_G D ca z zs) Y 0 lv0 [] (p_M ca z n q s)) : p_C D z zs ca Y d av n q mc ms s F :=
  fun _ => j_of lv0 tbl_good hy hav hlv (fun K X E B => body K X ⟨s, E⟩ (fun _ _ => by obtain ⟨p, l, e, R, s, m, args, below, meth, c, Qs, t0, s0⟩ := K; exact B))
def p_dflt (sl : List (Option (Nat × (Nat → Nat)))) : List Value := sl.map (fun d => match d with
  | none => Value.int 0
  | some _ => .null)
theorem p_dflt_eq (z ix : Nat) (sl : List (Option (Nat × (Nat → Nat)))) : p_slots z ix (fun _ => 0) sl = p_dflt sl := by
  apply List.ext_getElem?
  intro i
  simp only [p_slots, p_dflt, List.getElem?_mapIdx, List.getElem?_map]
  cases hs : sl[i]? with
  | none => rfl
  | some d => cases d <;> simp

theorem p_newO {K : j_K} {D : va_G} {z : Nat} {zs : j_Zs} {ca : Nat → ClassId} {Y : j_Y} {d mc ms : Nat} (X : j_X K (k_G D ca z zs) Y d mc ms) {pc : Nat} {lv : List (Nat × Value)} {st : List Value} {s : k_S} {n q : Nat} {i kd ix ci n0 q0 N : Nat} {C : String} {Tb : u_T} {sl : List (Option (Nat × (Nat → Nat)))} (ty : Nat → FieldType) (B : p_B K z n0 q0) (hk : kt kd = .inl (ci, sl)) (hci : vwCl[ci]? = some (C, Tb, N)) (hin : ∀ w ∈ u_ws C Tb N, w ∈ jT) (hty : ∀ k, k < N → parseFieldDescriptor (Tb k).2.2.1 = some (ty k)) (hlk : Cond.classLink Y.1.cls i C ∈ jT ∧ Cond.instantiable C N ∈ jT ∧ Cond.initialized C ∈ jT) (hfs : ∀ j, j < N → defaultValue (ty j) = vp_V (p_dflt sl) j) (hd : decode Y.2.1 pc = .ok (.new i, 3)) (hi : ix < cnt kd) (hn : off kd ix = n) (hm : n + 1 ≤ n0 + mc) (hm2 : q + N ≤ q0 + ms) (k : j_V K (k_G D ca z zs) Y (pc + 3) lv (.ref (ad z kd ix) :: st) (p_M ca z (n + 1) (q + N) (k_up s kd ix (fun _ => 0)))) : j_V K (k_G D ca z zs) Y pc lv st (p_M ca z n q s) := by
  refine v_new X ty hci hin hty hlk hfs hd (B ca s) (by show z + n + 1 ≤ z + n0 + mc; omega) hm2 ?_
  have e : (Sum.inr (ci, p_dflt sl) : va_E) = p_cell ca z kd ix (fun _ => 0) := by
    unfold p_cell
    rw [hk, ← p_dflt_eq z ix sl]
  rw [e]
  have e2 : ((p_M ca z n q s).1 + 1, (p_M ca z n q s).2.1 + N, j_up (p_M ca z n q s).2.2 (p_M ca z n q s).1 (p_cell ca z kd ix (fun _ => 0))) = p_M ca z (n + 1) (q + N) (k_up s kd ix (fun _ => 0)) := by
    show (z + n + 1, q + N, j_up (p_lay ca z n s) (z + n) (p_cell ca z kd ix (fun _ => 0))) = _
    rw [p_new hi hn]
    rfl
  rw [e2]
  have e3 : (p_M ca z n q s).1 = ad z kd ix := by
    show z + n = z + off kd ix
    rw [hn]
  rw [e3]
  exact k
theorem p_newI {K : j_K} {D : va_G} {z : Nat} {zs : j_Zs} {ca : Nat → ClassId} {Y : j_Y} {d mc ms : Nat} (X : j_X K (k_G D ca z zs) Y d mc ms) {pc : Nat} {lv : List (Nat × Value)} {st : List Value} {s : k_S} {n q : Nat} {kd ix n0 q0 N ti : Nat} {x : Int32} {at0 : ArrayType} (B : p_B K z n0 q0) (hk : kt kd = .inr (.inl (ti, N))) (hat : at0 = .int ∨ at0 = .boolean) (hty : (k_tys ca)[ti]? = some (ca ti, newarray.typeOf at0)) (hw : Cond.arrayClass (newarray.typeOf at0) ∈ jT) (hd : decode Y.2.1 pc = .ok (.newarray at0, 2)) (hx0 : ¬ x < 0) (hxn : x.toNatClampNeg = N) (hN : N ≤ 1000000) (hi : ix < cnt kd) (hn : off kd ix = n) (hm : n + 1 ≤ n0 + mc) (hm2 : q + N ≤ q0 + ms) (k : j_V K (k_G D ca z zs) Y (pc + 2) lv (.ref (ad z kd ix) :: st) (p_M ca z (n + 1) (q + N) (k_up s kd ix (fun _ => 0)))) : j_V K (k_G D ca z zs) Y pc lv (.int x :: st) (p_M ca z n q s) := by
  refine v_newarray X hat hty hw hd hx0 hxn hN (B ca s) (by show z + n + 1 ≤ z + n0 + mc; omega) hm2 ?_
  have e : (Sum.inl (ca ti, N, .inl (fun _ => 0)) : va_E) = p_cell ca z kd ix (fun _ => 0) := by
    unfold p_cell
    rw [hk]
  rw [e]
  have e2 : ((p_M ca z n q s).1 + 1, (p_M ca z n q s).2.1 + N, j_up (p_M ca z n q s).2.2 (p_M ca z n q s).1 (p_cell ca z kd ix (fun _ => 0))) = p_M ca z (n + 1) (q + N) (k_up s kd ix (fun _ => 0)) := by
    show (z + n + 1, q + N, j_up (p_lay ca z n s) (z + n) (p_cell ca z kd ix (fun _ => 0))) = _
    rw [p_new hi hn]
    rfl
  rw [e2]
  have e3 : (p_M ca z n q s).1 = ad z kd ix := by
    show z + n = z + off kd ix
    rw [hn]
  rw [e3]
  exact k
theorem p_newR {K : j_K} {D : va_G} {z : Nat} {zs : j_Zs} {ca : Nat → ClassId} {Y : j_Y} {d mc ms : Nat} (X : j_X K (k_G D ca z zs) Y d mc ms) {pc : Nat} {lv : List (Nat × Value)} {st : List Value} {s : k_S} {n q : Nat} {i kd ix n0 q0 N ti k2 : Nat} {g : Nat → Nat → Nat} {C : String} {x : Int32} (B : p_B K z n0 q0) (hk : kt kd = .inr (.inr (ti, N, k2, g))) (hty : (k_tys ca)[ti]? = some (ca ti, .object C)) (hlk : Cond.classLink Y.1.cls i C ∈ jT) (hao : C ∈ zs.2.2.2) (hd : decode Y.2.1 pc = .ok (.anewarray i, 3)) (hx0 : ¬ x < 0) (hxn : x.toNatClampNeg = N) (hN : N ≤ 1000000) (hi : ix < cnt kd) (hn : off kd ix = n) (hm : n + 1 ≤ n0 + mc) (hm2 : q + N ≤ q0 + ms) (k : j_V K (k_G D ca z zs) Y (pc + 3) lv (.ref (ad z kd ix) :: st) (p_M ca z (n + 1) (q + N) (k_up s kd ix (fun _ => 0)))) : j_V K (k_G D ca z zs) Y pc lv (.int x :: st) (p_M ca z n q s) := by
  refine v_anewarray X hty hlk hao hd hx0 hxn hN (B ca s) (by show z + n + 1 ≤ z + n0 + mc; omega) hm2 ?_
  have e : (Sum.inl (ca ti, N, .inr (.inr (.inr (.inr (fun _ => none))))) : va_E) = p_cell ca z kd ix (fun _ => 0) := by
    unfold p_cell
    rw [hk]
    simp
  rw [e]
  have e2 : ((p_M ca z n q s).1 + 1, (p_M ca z n q s).2.1 + N, j_up (p_M ca z n q s).2.2 (p_M ca z n q s).1 (p_cell ca z kd ix (fun _ => 0))) = p_M ca z (n + 1) (q + N) (k_up s kd ix (fun _ => 0)) := by
    show (z + n + 1, q + N, j_up (p_lay ca z n s) (z + n) (p_cell ca z kd ix (fun _ => 0))) = _
    rw [p_new hi hn]
    rfl
  rw [e2]
  have e3 : (p_M ca z n q s).1 = ad z kd ix := by
    show z + n = z + off kd ix
    rw [hn]
  rw [e3]
  exact k
theorem p_put {K : j_K} {D : va_G} {z : Nat} {zs : j_Zs} {ca : Nat → ClassId} {Y : j_Y} {d mc ms : Nat} (X : j_X K (k_G D ca z zs) Y d mc ms) {pc : Nat} {lv : List (Nat × Value)} {st : List Value} {s : k_S} {n q : Nat} {kd ix j ci i : Nat} {sl : List (Option (Nat × (Nat → Nat)))} (hk : kt kd = .inl (ci, sl)) {ty : FieldType} {v : Int32} {w : Value} {dd : Option (Nat × (Nat → Nat))} (hs : sl[j]? = some dd) (hw : p_val z ix v dd = w) (F : j_P (k_G D ca z zs) Y.1.cls i ci j false ty) (hd : decode Y.2.1 pc = .ok (.putfield i, 3)) (hn : narrow ty w = w) (hfit : fits ty w = true) (hi : ix < cnt kd) (ho : off kd ix < n) (k : j_V K (k_G D ca z zs) Y (pc + 3) lv st (p_M ca z n q (k_set s kd ix j v))) : j_V K (k_G D ca z zs) Y pc lv (w :: .ref (ad z kd ix) :: st) (p_M ca z n q s) := by
  refine v_put X F hd (fs := p_slots z ix (s kd ix) sl) ?_ hn hfit (p_slots_len hs) ?_
  · rw [p_at hi ho]
    unfold p_cell
    rw [hk]
  · rw [p_slots_set hs hw]
    have e : (Sum.inr (ci, p_slots z ix (upd (s kd ix) j v) sl) : va_E) = p_cell ca z kd ix (upd (s kd ix) j v) := by
      unfold p_cell
      rw [hk]
    rw [e]
    have e2 : ((p_M ca z n q s).1, (p_M ca z n q s).2.1, j_up (p_M ca z n q s).2.2 (ad z kd ix) (p_cell ca z kd ix (upd (s kd ix) j v))) = p_M ca z n q (k_set s kd ix j v) := by
      show (z + n, q, j_up (p_lay ca z n s) (ad z kd ix) (p_cell ca z kd ix (upd (s kd ix) j v))) = _
      rw [p_up hi ho]
      rfl
    rw [e2]
    exact k
theorem p_putF {K : j_K} {D : va_G} {z : Nat} {zs : j_Zs} {ca : Nat → ClassId} {Y : j_Y} {d mc ms : Nat} (X : j_X K (k_G D ca z zs) Y d mc ms) {pc : Nat} {lv : List (Nat × Value)} {st : List Value} {s : k_S} {n q : Nat} {kd ix j ci i : Nat} {sl : List (Option (Nat × (Nat → Nat)))} (hk : kt kd = .inl (ci, sl)) {ty : FieldType} {v : Int32} {w : Value} {dd : Option (Nat × (Nat → Nat))} (hs : sl[j]? = some dd) (hw : p_val z ix v dd = w) (F : j_P (k_G D ca z zs) Y.1.cls i ci j true ty) (hini : Y.1.name = "<init>") (hd : decode Y.2.1 pc = .ok (.putfield i, 3)) (hn : narrow ty w = w) (hfit : fits ty w = true) (hi : ix < cnt kd) (ho : off kd ix < n) (k : j_V K (k_G D ca z zs) Y (pc + 3) lv st (p_M ca z n q (k_set s kd ix j v))) : j_V K (k_G D ca z zs) Y pc lv (w :: .ref (ad z kd ix) :: st) (p_M ca z n q s) := by
  refine v_putF X F hini hd (fs := p_slots z ix (s kd ix) sl) ?_ hn hfit (p_slots_len hs) ?_
  · rw [p_at hi ho]
    unfold p_cell
    rw [hk]
  · rw [p_slots_set hs hw]
    have e : (Sum.inr (ci, p_slots z ix (upd (s kd ix) j v) sl) : va_E) = p_cell ca z kd ix (upd (s kd ix) j v) := by
      unfold p_cell
      rw [hk]
    rw [e]
    have e2 : ((p_M ca z n q s).1, (p_M ca z n q s).2.1, j_up (p_M ca z n q s).2.2 (ad z kd ix) (p_cell ca z kd ix (upd (s kd ix) j v))) = p_M ca z n q (k_set s kd ix j v) := by
      show (z + n, q, j_up (p_lay ca z n s) (ad z kd ix) (p_cell ca z kd ix (upd (s kd ix) j v))) = _
      rw [p_up hi ho]
      rfl
    rw [e2]
    exact k
theorem p_getr {K : j_K} {D : va_G} {z : Nat} {zs : j_Zs} {ca : Nat → ClassId} {Y : j_Y} {d mc ms : Nat} (X : j_X K (k_G D ca z zs) Y d mc ms) {pc : Nat} {lv : List (Nat × Value)} {st : List Value} {s : k_S} {n q : Nat} {kd ix j ci i : Nat} {sl : List (Option (Nat × (Nat → Nat)))} (hk : kt kd = .inl (ci, sl)) {k2 ix2 : Nat} {g : Nat → Nat} (hs : sl[j]? = some (some (k2, g))) (F : j_F (k_G D ca z zs) Y.1.cls i ci j) (hd : decode Y.2.1 pc = .ok (.getfield i, 3)) (hg : g ix = ix2) (hi : ix < cnt kd) (ho : off kd ix < n) (hf : ¬ s kd ix j = 0) (k : j_V K (k_G D ca z zs) Y (pc + 3) lv (.ref (ad z k2 ix2) :: st) (p_M ca z n q s)) : j_V K (k_G D ca z zs) Y pc lv (.ref (ad z kd ix) :: st) (p_M ca z n q s) := by
  subst hg
  refine v_get X F hd (fs := p_slots z ix (s kd ix) sl) ?_ (p_slots_ref hs hf) k
  rw [p_at hi ho]
  unfold p_cell
  rw [hk]
theorem p_iast {K : j_K} {D : va_G} {z : Nat} {zs : j_Zs} {ca : Nat → ClassId} {Y : j_Y} {d mc ms : Nat} (X : j_X K (k_G D ca z zs) Y d mc ms) {pc : Nat} {lv : List (Nat × Value)} {st : List Value} {s : k_S} {n q : Nat} {kd ix N : Nat} {i x : Int32} (j : Nat) (hij : i = nI j) (hk : kt kd = .inr (.inl (0, N))) (hd : decode Y.2.1 pc = .ok (.iastore, 1)) (hi : ix < cnt kd) (ho : off kd ix < n) (hin : j < N) (hN : N < 2 ^ 31) (k : j_V K (k_G D ca z zs) Y (pc + 1) lv st (p_M ca z n q (k_set s kd ix j x))) : j_V K (k_G D ca z zs) Y pc lv (.int x :: .int i :: .ref (ad z kd ix) :: st) (p_M ca z n q s) := by
  subst hij
  refine v_iastore X (ti := 0) (cA := ca 0) rfl hd (n := N) (f := s kd ix) ?_ (vp_in_nI hin hN) ?_
  · rw [p_at hi ho]
    unfold p_cell
    rw [hk]
  · rw [nI_clamp (by omega)]
    have e : (Sum.inl (ca 0, N, .inl (upd (s kd ix) j x)) : va_E) = p_cell ca z kd ix (upd (s kd ix) j x) := by
      unfold p_cell
      rw [hk]
    rw [e]
    have e2 : ((p_M ca z n q s).1, (p_M ca z n q s).2.1, j_up (p_M ca z n q s).2.2 (ad z kd ix) (p_cell ca z kd ix (upd (s kd ix) j x))) = p_M ca z n q (k_set s kd ix j x) := by
      show (z + n, q, j_up (p_lay ca z n s) (ad z kd ix) (p_cell ca z kd ix (upd (s kd ix) j x))) = _
      rw [p_up hi ho]
      rfl
    rw [e2]
    exact k
theorem p_aast {K : j_K} {D : va_G} {z : Nat} {zs : j_Zs} {ca : Nat → ClassId} {Y : j_Y} {d mc ms : Nat} (X : j_X K (k_G D ca z zs) Y d mc ms) {pc : Nat} {lv : List (Nat × Value)} {st : List Value} {s : k_S} {n q : Nat} {kd ix N ti k2 ix2 ci Nc : Nat} {g : Nat → Nat → Nat} {C : String} {Tb : u_T} {sl : List (Option (Nat × (Nat → Nat)))} {i : Int32} (j : Nat) (hij : i = nI j) (hk : kt kd = .inr (.inr (ti, N, k2, g))) (hk2 : kt k2 = .inl (ci, sl)) (hty : (k_tys ca)[ti]? = some (ca ti, .object C)) (hci : vwCl[ci]? = some (C, Tb, Nc)) (hd : decode Y.2.1 pc = .ok (.aastore, 1)) (hg : g ix j = ix2) (hi : ix < cnt kd) (ho : off kd ix < n) (hi2 : ix2 < cnt k2) (ho2 : off k2 ix2 < n) (hin : j < N) (hN : N < 2 ^ 31) (k : j_V K (k_G D ca z zs) Y (pc + 1) lv st (p_M ca z n q (k_set s kd ix j 1))) : j_V K (k_G D ca z zs) Y pc lv (.ref (ad z k2 ix2) :: .int i :: .ref (ad z kd ix) :: st) (p_M ca z n q s) := by
  subst hij
  refine v_aastore X hty hci hd (n := N) (f := fun j => if j < N ∧ ¬ s kd ix j = 0 then some (ad z k2 (g ix j)) else none) (vs := p_slots z ix2 (s k2 ix2) sl) ?_ ?_ (vp_in_nI hin hN) ?_
  · rw [p_at hi ho]
    unfold p_cell
    rw [hk]
  · rw [p_at hi2 ho2]
    unfold p_cell
    rw [hk2]
  · rw [nI_clamp (by omega)]
    have e : (Sum.inl (ca ti, N, .inr (.inr (.inr (.inr (va_up (fun j => if j < N ∧ ¬ s kd ix j = 0 then some (ad z k2 (g ix j)) else none) j (some (ad z k2 ix2))))))) : va_E) = p_cell ca z kd ix (upd (s kd ix) j 1) := by
      unfold p_cell
      rw [hk]
      have ef : va_up (fun j => if j < N ∧ ¬ s kd ix j = 0 then some (ad z k2 (g ix j)) else none) j (some (ad z k2 ix2)) = fun j_1 => if j_1 < N ∧ ¬ upd (s kd ix) j 1 j_1 = 0 then some (ad z k2 (g ix j_1)) else none := by
        funext t
        by_cases ht : t = j
        · subst ht
          simp [va_up, upd, hg, hin]
        · simp [va_up, upd, ht]
      rw [ef]
    rw [e]
    have e2 : ((p_M ca z n q s).1, (p_M ca z n q s).2.1, j_up (p_M ca z n q s).2.2 (ad z kd ix) (p_cell ca z kd ix (upd (s kd ix) j 1))) = p_M ca z n q (k_set s kd ix j 1) := by
      show (z + n, q, j_up (p_lay ca z n s) (ad z kd ix) (p_cell ca z kd ix (upd (s kd ix) j 1))) = _
      rw [p_up hi ho]
      rfl
    rw [e2]
    exact k
theorem p_callI {K : j_K} {D : va_G} {z : Nat} {zs : j_Zs} {ca : Nat → ClassId} {Y : j_Y} {d mc ms : Nat} (X : j_X K (k_G D ca z zs) Y d mc ms) {pc : Nat} {lv : List (Nat × Value)} {st : List Value} {s : k_S} {n q : Nat} {i n1 d1 mc1 ms1 n0 q0 b : Nat} {Y1 : j_Y} {As rest : List Value} {F : k_S → Prop} (B : p_B K z n0 q0) (lk : j_L (k_G D ca z zs) Y.1.cls i n1 Y1 2) (hd : decode Y.2.1 pc = .ok (.invokespecial i, 3)) (hC : p_C D z zs ca Y1 d1 (.ref b :: As) n q mc1 ms1 s F) (hst : st = As.reverse ++ .ref b :: rest) (hd1 : d1 + 1 ≤ d) (hm : n + mc1 ≤ n0 + mc) (hm2 : q + ms1 ≤ q0 + ms) (hn : As.length = n1) (hrest : (rest.map fun v => v.category).sum ≤ 8) (k : ∀ s', F s' → j_V K (k_G D ca z zs) Y (pc + 3) lv rest (p_M ca z (n + mc1) (q + ms1) s')) : j_V K (k_G D ca z zs) Y pc lv st (p_M ca z n q s) := by
  refine v_callI X lk hC hd hst (B ca s) hd1 (by show z + n + mc1 ≤ z + n0 + mc; omega) hm2 hn hrest (fun r M1 hq _ _ => ?_)
  obtain ⟨rfl, s', rfl, hF⟩ := hq
  exact k s' hF
theorem p_callIN {K : j_K} {D : va_G} {z : Nat} {zs : j_Zs} {ca : Nat → ClassId} {Y : j_Y} {d mc ms : Nat} (X : j_X K (k_G D ca z zs) Y d mc ms) {pc : Nat} {lv : List (Nat × Value)} {st : List Value} {s : k_S} {n q : Nat} {i n1 d1 mc1 ms1 n0 q0 b : Nat} {Y1 : j_Y} {As rest : List Value} {F : k_S → Prop} {host : String} (B : p_B K z n0 q0) (hnest : (Y.1.cls, i, Y1.1, host) ∈ zs.2.2.1) (lk : Cond.initialized Y1.1.cls ∈ jT ∧ Cond.code Y1.1 Y1.2.1 Y1.2.2.1 Y1.2.2.2 ∈ jT ∧ Y1.2.2.1 ≤ 13 ∧ Y1.1.cls ≠ "java/lang/invoke/MethodHandle" ∧ Y1.1.cls ≠ "java/lang/invoke/VarHandle" ∧ (parseMethodDescriptor Y1.1.desc).map (fun d => d.parameters.length) = some n1 ∧ Y1.1.name = "<init>" ∧ Y1.2.2.2 = none ∧ Cond.instanceMethod Y1.1 ∈ jT) (hd : decode Y.2.1 pc = .ok (.invokespecial i, 3)) (hC : p_C D z zs ca Y1 d1 (.ref b :: As) n q mc1 ms1 s F) (hst : st = As.reverse ++ .ref b :: rest) (hd1 : d1 + 1 ≤ d) (hm : n + mc1 ≤ n0 + mc) (hm2 : q + ms1 ≤ q0 + ms) (hn : As.length = n1) (hrest : (rest.map fun v => v.category).sum ≤ 8) (k : ∀ s', F s' → j_V K (k_G D ca z zs) Y (pc + 3) lv rest (p_M ca z (n + mc1) (q + ms1) s')) : j_V K (k_G D ca z zs) Y pc lv st (p_M ca z n q s) := by
  refine v_callIN X hnest lk hC hd hst (B ca s) hd1 (by show z + n + mc1 ≤ z + n0 + mc; omega) hm2 hn hrest (fun r M1 hq _ _ => ?_)
  obtain ⟨rfl, s', rfl, hF⟩ := hq
  exact k s' hF
theorem p_ret {K : j_K} {D : va_G} {z : Nat} {zs : j_Zs} {ca : Nat → ClassId} {Y : j_Y} {d mc ms : Nat} (X : j_X K (k_G D ca z zs) Y d mc ms) {pc : Nat} {lv : List (Nat × Value)} {s : k_S} {n q : Nat} {n0 q0 : Nat} {F : k_S → Prop} (B : p_B K z n0 q0) (E : p_R K D z zs ca n0 q0 mc ms F) (hd : decode Y.2.1 pc = .ok (.return_, 1)) (hty : Y.2.2.2 = none) (hn : n = n0 + mc) (hq : q = q0 + ms) (hF : F s) : j_V K (k_G D ca z zs) Y pc lv [] (p_M ca z n q s) := by
  obtain ⟨s0, E⟩ := E
  subst hn
  subst hq
  exact v_vret X E hd hty ⟨rfl, s, rfl, hF⟩ (by show z + (n0 + mc) = z + n0 + mc; omega) rfl
/-- all references set: the memory is laid out -/
theorem p_full {ca : Nat → ClassId} {z q : Nat} {s : k_S} (hq : q = k_slotsum) (h : ∀ (o : Nat) (q : Nat × Nat), tab[o]? = some q → p_cell ca z q.1 q.2 (s q.1 q.2) = k_cell ca z q.1 q.2 (s q.1 q.2)) : p_M ca z 352 q s = k_M ca z s := by
  subst hq
  show (z + 352, k_slotsum, p_lay ca z 352 s) = (z + 352, k_slotsum, k_lay ca z s)
  have e : p_lay ca z 352 s = k_lay ca z s := by
    funext a
    unfold p_lay k_lay
    by_cases hz : a < z
    · rw [if_pos (Or.inl hz), if_pos hz]
    · by_cases hl : z + 352 ≤ a
      · rw [if_pos (Or.inr hl), if_neg hz, List.getElem?_eq_none (by rw [tab_len]; omega)]
        rfl
      · rw [if_neg (by omega), if_neg hz]
        cases ht : tab[a - z]? with
        | none => rfl
        | some q => simp [h _ q ht]
  rw [e]
def okc (s : k_S) (k i : Nat) : Prop := ∀ (ca : Nat → ClassId) (z : Nat), p_cell ca z k i (s k i) = k_cell ca z k i (s k i)
theorem k_up_of {s : k_S} {kd ix k i : Nat} {f : Nat → Int32} : k_up s kd ix f k i = if k = kd ∧ i = ix then f else s k i := rfl
theorem k_set_up {s : k_S} {kd ix j k i : Nat} {v : Int32} : k_set s kd ix j v k i = if k = kd ∧ i = ix then upd (s kd ix) j v else s k i := rfl
theorem okc_cong {s s' : k_S} {k i : Nat} (h : s' k i = s k i) (hk : okc s k i) : okc s' k i := fun ca z => by rw [h]; exact hk ca z
