/-! The memory as a table: every cell has a kind and a number; 's kind number place' is the int that lies there; references never change. -/
abbrev k_S : Type := Nat → Nat → Nat → Int32
def ad (z kd ix : Nat) : Nat := z + off kd ix
def k_slots (z ix : Nat) (f : Nat → Int32) (sl : List (Option (Nat × (Nat → Nat)))) : List Value := sl.mapIdx (fun j d => match d with
  | none => Value.int (f j)
  | some (k, g) => .ref (ad z k (g ix)))
def k_cell (ca : Nat → ClassId) (z kd ix : Nat) (f : Nat → Int32) : va_E := match kt kd with
  | .inl (ci, sl) => .inr (ci, k_slots z ix f sl)
  | .inr (.inl (ti, n)) => .inl (ca ti, n, .inl f)
  | .inr (.inr (ti, n, k, g)) => .inl (ca ti, n, .inr (.inr (.inr (.inr (fun j => if j < n then some (ad z k (g ix j)) else none)))))
def k_lay (ca : Nat → ClassId) (z : Nat) (s : k_S) : Nat → Option va_E := fun a => if a < z then none else (tab[a - z]?).map (fun q => k_cell ca z q.1 q.2 (s q.1 q.2))
def k_M (ca : Nat → ClassId) (z : Nat) (s : k_S) : j_M := (z + 352, k_slotsum, k_lay ca z s)
def k_up (s : k_S) (kd ix : Nat) (f : Nat → Int32) : k_S := fun k i => if k = kd ∧ i = ix then f else s k i
def k_set (s : k_S) (kd ix j : Nat) (v : Int32) : k_S := k_up s kd ix (upd (s kd ix) j v)
theorem k_at {ca : Nat → ClassId} {z : Nat} {s : k_S} {kd ix : Nat} (h : ix < cnt kd) : (k_M ca z s).2.2 (ad z kd ix) = some (k_cell ca z kd ix (s kd ix)) := by
  show (if z + off kd ix < z then none else (tab[z + off kd ix - z]?).map (fun q => k_cell ca z q.1 q.2 (s q.1 q.2))) = _
  rw [if_neg (by omega), Nat.add_sub_cancel_left, k_valid kd ix h]
  rfl
theorem k_put {ca : Nat → ClassId} {z : Nat} {s : k_S} {kd ix : Nat} {f : Nat → Int32} (h : ix < cnt kd) : ((k_M ca z s).1, (k_M ca z s).2.1, j_up (k_M ca z s).2.2 (ad z kd ix) (k_cell ca z kd ix f)) = k_M ca z (k_up s kd ix f) := by
  show (z + 352, k_slotsum, j_up (k_lay ca z s) (ad z kd ix) (k_cell ca z kd ix f)) = (z + 352, k_slotsum, k_lay ca z (k_up s kd ix f))
  have hh : j_up (k_lay ca z s) (ad z kd ix) (k_cell ca z kd ix f) = k_lay ca z (k_up s kd ix f) := by
    funext a
    show (if a = z + off kd ix then some (k_cell ca z kd ix f) else k_lay ca z s a) = _
    by_cases ha : a = z + off kd ix
    · rw [if_pos ha, ha]
      unfold k_lay
      rw [if_neg (by omega), Nat.add_sub_cancel_left, k_valid kd ix h]
      simp [k_up]
    · rw [if_neg ha]
      unfold k_lay
      by_cases hz : a < z
      · rw [if_pos hz, if_pos hz]
      · rw [if_neg hz, if_neg hz]
        cases ht : tab[a - z]? with
        | none => rfl
        | some q =>
          have hi := k_inj (a - z) q ht
          have hne : ¬ (q.1 = kd ∧ q.2 = ix) := fun hq => ha (by rw [hq.1, hq.2] at hi; omega)
          simp [k_up, hne]
  rw [hh]
theorem k_slots_get {z ix : Nat} {f : Nat → Int32} {sl : List (Option (Nat × (Nat → Nat)))} {j : Nat} (h : sl[j]? = some none) : (k_slots z ix f sl)[j]? = some (.int (f j)) := by
  simp [k_slots, List.getElem?_mapIdx, h]
theorem k_slots_ref {z ix : Nat} {f : Nat → Int32} {sl : List (Option (Nat × (Nat → Nat)))} {j k : Nat} {g : Nat → Nat} (h : sl[j]? = some (some (k, g))) : (k_slots z ix f sl)[j]? = some (.ref (ad z k (g ix))) := by
  simp [k_slots, List.getElem?_mapIdx, h]
theorem k_slots_set {z ix : Nat} {f : Nat → Int32} {sl : List (Option (Nat × (Nat → Nat)))} {j : Nat} {v : Int32} (h : sl[j]? = some none) : (k_slots z ix f sl).set j (.int v) = k_slots z ix (upd f j v) sl := by
  apply List.ext_getElem?
  intro i
  by_cases hi : j = i
  · subst hi
    have hl : j < sl.length := (List.getElem?_eq_some_iff.mp h).1
    rw [k_slots_get h, List.getElem?_set_self (by simpa [k_slots] using hl)]
    simp [upd]
  · rw [List.getElem?_set_ne hi]
    simp only [k_slots, List.getElem?_mapIdx]
    cases hs : sl[i]? with
    | none => rfl
    | some d =>
      cases d with
      | none => simp [upd, Ne.symm hi]
      | some q => rfl
theorem k_slots_len {z ix : Nat} {f : Nat → Int32} {sl : List (Option (Nat × (Nat → Nat)))} {j : Nat} {d : Option (Nat × (Nat → Nat))} (h : sl[j]? = some d) : j < (k_slots z ix f sl).length := by
  have hl : j < sl.length := (List.getElem?_eq_some_iff.mp h).1
  simpa [k_slots] using hl
/-- what is fixed -/
abbrev k_G (D : va_G) (ca : Nat → ClassId) (z : Nat) (zs : j_Zs) : j_G := (jT, D, vwCl, k_tys ca, z, zs)
/-- a method's contract over laid out memory -/
def k_C (D : va_G) (z : Nat) (zs : j_Zs) (ca : Nat → ClassId) (Y : j_Y) (d : Nat) (av : List Value) (s : k_S) (Q : Option Value → k_S → Prop) : Prop := ∀ l, j_C l (k_G D ca z zs) Y d av (k_M ca z s) 0 0 (fun r M => ∃ s', M = k_M ca z s' ∧ Q r s')
def k_R (K : j_K) (D : va_G) (z : Nat) (zs : j_Zs) (ca : Nat → ClassId) (Q : Option Value → k_S → Prop) : Prop := ∃ s0, j_R K (k_G D ca z zs) (k_M ca z s0) 0 0 (fun r M => ∃ s', M = k_M ca z s' ∧ Q r s') ∧ j_S K (k_M ca z s0)
theorem k_of {D : va_G} {z : Nat} {zs : j_Zs} {ca : Nat → ClassId} {Y : j_Y} {d : Nat} {av : List Value} {s : k_S} {Q : Option Value → k_S → Prop} (lv0 : List (Nat × Value)) (hy : plainName Y.1.cls = true) (hav : (lg_sl av).length ≤ Y.2.2.1) (hlv : lv_args 0 av = lv0)
    (body : ∀ K, j_X K (k_G D ca z zs) Y d 0 0 → k_R K D z zs ca Q → j_V K (k_G D ca z zs) Y 0 lv0 [] (k_M ca z s)) : k_C D z zs ca Y d av s Q :=
  fun _ => j_of lv0 tbl_good hy hav hlv (fun K X E B => body K X ⟨s, E, B⟩)

theorem w_geti {K : j_K} {D : va_G} {z : Nat} {zs : j_Zs} {ca : Nat → ClassId} {Y : j_Y} {d mc ms : Nat} (X : j_X K (k_G D ca z zs) Y d mc ms) {pc : Nat} {lv : List (Nat × Value)} {st : List Value} {s : k_S} {kd ix j ci i : Nat} {sl : List (Option (Nat × (Nat → Nat)))} (hk : kt kd = .inl (ci, sl)) (hs : sl[j]? = some none) (F : j_F (k_G D ca z zs) Y.1.cls i ci j) (hd : decode Y.2.1 pc = .ok (.getfield i, 3)) (hi : ix < cnt kd) (k : j_V K (k_G D ca z zs) Y (pc + 3) lv (.int (s kd ix j) :: st) (k_M ca z s)) : j_V K (k_G D ca z zs) Y pc lv (.ref (ad z kd ix) :: st) (k_M ca z s) := by
  refine v_get X F hd (fs := k_slots z ix (s kd ix) sl) ?_ (k_slots_get hs) k
  rw [k_at hi]
  unfold k_cell
  rw [hk]
theorem w_getr {K : j_K} {D : va_G} {z : Nat} {zs : j_Zs} {ca : Nat → ClassId} {Y : j_Y} {d mc ms : Nat} (X : j_X K (k_G D ca z zs) Y d mc ms) {pc : Nat} {lv : List (Nat × Value)} {st : List Value} {s : k_S} {kd ix j ci i : Nat} {sl : List (Option (Nat × (Nat → Nat)))} (hk : kt kd = .inl (ci, sl)) {k2 ix2 : Nat} {g : Nat → Nat} (hs : sl[j]? = some (some (k2, g))) (F : j_F (k_G D ca z zs) Y.1.cls i ci j) (hd : decode Y.2.1 pc = .ok (.getfield i, 3)) (hg : g ix = ix2) (hi : ix < cnt kd) (k : j_V K (k_G D ca z zs) Y (pc + 3) lv (.ref (ad z k2 ix2) :: st) (k_M ca z s)) : j_V K (k_G D ca z zs) Y pc lv (.ref (ad z kd ix) :: st) (k_M ca z s) := by
  subst hg
  refine v_get X F hd (fs := k_slots z ix (s kd ix) sl) ?_ (k_slots_ref hs) k
  rw [k_at hi]
  unfold k_cell
  rw [hk]
theorem w_put {K : j_K} {D : va_G} {z : Nat} {zs : j_Zs} {ca : Nat → ClassId} {Y : j_Y} {d mc ms : Nat} (X : j_X K (k_G D ca z zs) Y d mc ms) {pc : Nat} {lv : List (Nat × Value)} {st : List Value} {s : k_S} {kd ix j ci i : Nat} {sl : List (Option (Nat × (Nat → Nat)))} (hk : kt kd = .inl (ci, sl)) {ty : FieldType} {v : Int32} (hs : sl[j]? = some none) (F : j_P (k_G D ca z zs) Y.1.cls i ci j false ty) (hd : decode Y.2.1 pc = .ok (.putfield i, 3)) (hn : narrow ty (.int v) = .int v) (hfit : fits ty (.int v) = true) (hi : ix < cnt kd) (k : j_V K (k_G D ca z zs) Y (pc + 3) lv st (k_M ca z (k_set s kd ix j v))) : j_V K (k_G D ca z zs) Y pc lv (.int v :: .ref (ad z kd ix) :: st) (k_M ca z s) := by
  refine v_put X F hd (fs := k_slots z ix (s kd ix) sl) ?_ hn hfit (k_slots_len hs) ?_
  · rw [k_at hi]
    unfold k_cell
    rw [hk]
  · rw [k_slots_set hs]
    have e : (Sum.inr (ci, k_slots z ix (upd (s kd ix) j v) sl) : va_E) = k_cell ca z kd ix (upd (s kd ix) j v) := by
      unfold k_cell
      rw [hk]
    rw [e, k_put hi]
    exact k
theorem w_iald {K : j_K} {D : va_G} {z : Nat} {zs : j_Zs} {ca : Nat → ClassId} {Y : j_Y} {d mc ms : Nat} (X : j_X K (k_G D ca z zs) Y d mc ms) {pc : Nat} {lv : List (Nat × Value)} {st : List Value} {s : k_S} {kd ix n : Nat} {i : Int32} (hk : kt kd = .inr (.inl (0, n))) (hd : decode Y.2.1 pc = .ok (.iaload, 1)) (hi : ix < cnt kd) (hin : vp_in i n) (k : j_V K (k_G D ca z zs) Y (pc + 1) lv (.int (s kd ix i.toNatClampNeg) :: st) (k_M ca z s)) : j_V K (k_G D ca z zs) Y pc lv (.int i :: .ref (ad z kd ix) :: st) (k_M ca z s) := by
  refine v_iaload X (ti := 0) (cA := ca 0) rfl hd (n := n) (f := s kd ix) ?_ hin k
  rw [k_at hi]
  unfold k_cell
  rw [hk]
theorem w_iast {K : j_K} {D : va_G} {z : Nat} {zs : j_Zs} {ca : Nat → ClassId} {Y : j_Y} {d mc ms : Nat} (X : j_X K (k_G D ca z zs) Y d mc ms) {pc : Nat} {lv : List (Nat × Value)} {st : List Value} {s : k_S} {kd ix n : Nat} {i : Int32} (hk : kt kd = .inr (.inl (0, n))) {x : Int32} (hd : decode Y.2.1 pc = .ok (.iastore, 1)) (hi : ix < cnt kd) (hin : vp_in i n) (k : j_V K (k_G D ca z zs) Y (pc + 1) lv st (k_M ca z (k_set s kd ix i.toNatClampNeg x))) : j_V K (k_G D ca z zs) Y pc lv (.int x :: .int i :: .ref (ad z kd ix) :: st) (k_M ca z s) := by
  refine v_iastore X (ti := 0) (cA := ca 0) rfl hd (n := n) (f := s kd ix) ?_ hin ?_
  · rw [k_at hi]
    unfold k_cell
    rw [hk]
  · have e : (Sum.inl (ca 0, n, .inl (upd (s kd ix) i.toNatClampNeg x)) : va_E) = k_cell ca z kd ix (upd (s kd ix) i.toNatClampNeg x) := by
      unfold k_cell
      rw [hk]
    rw [e, k_put hi]
    exact k
theorem w_bald {K : j_K} {D : va_G} {z : Nat} {zs : j_Zs} {ca : Nat → ClassId} {Y : j_Y} {d mc ms : Nat} (X : j_X K (k_G D ca z zs) Y d mc ms) {pc : Nat} {lv : List (Nat × Value)} {st : List Value} {s : k_S} {kd ix n : Nat} {i : Int32} (hk : kt kd = .inr (.inl (1, n))) (hd : decode Y.2.1 pc = .ok (.baload, 1)) (hi : ix < cnt kd) (hin : vp_in i n) (k : j_V K (k_G D ca z zs) Y (pc + 1) lv (.int (s kd ix i.toNatClampNeg) :: st) (k_M ca z s)) : j_V K (k_G D ca z zs) Y pc lv (.int i :: .ref (ad z kd ix) :: st) (k_M ca z s) := by
  refine v_baload X (ti := 1) (cA := ca 1) rfl hd (n := n) (f := s kd ix) ?_ hin k
  rw [k_at hi]
  unfold k_cell
  rw [hk]
theorem w_bast {K : j_K} {D : va_G} {z : Nat} {zs : j_Zs} {ca : Nat → ClassId} {Y : j_Y} {d mc ms : Nat} (X : j_X K (k_G D ca z zs) Y d mc ms) {pc : Nat} {lv : List (Nat × Value)} {st : List Value} {s : k_S} {kd ix n : Nat} {i : Int32} (hk : kt kd = .inr (.inl (1, n))) {x : Int32} (hd : decode Y.2.1 pc = .ok (.bastore, 1)) (hi : ix < cnt kd) (hin : vp_in i n) (hx1 : vp_nar .boolean x = x) (k : j_V K (k_G D ca z zs) Y (pc + 1) lv st (k_M ca z (k_set s kd ix i.toNatClampNeg x))) : j_V K (k_G D ca z zs) Y pc lv (.int x :: .int i :: .ref (ad z kd ix) :: st) (k_M ca z s) := by
  refine v_bastore X (ti := 1) (cA := ca 1) rfl hd (n := n) (f := s kd ix) ?_ hin hx1 ?_
  · rw [k_at hi]
    unfold k_cell
    rw [hk]
  · have e : (Sum.inl (ca 1, n, .inl (upd (s kd ix) i.toNatClampNeg x)) : va_E) = k_cell ca z kd ix (upd (s kd ix) i.toNatClampNeg x) := by
      unfold k_cell
      rw [hk]
    rw [e, k_put hi]
    exact k
theorem w_aald {K : j_K} {D : va_G} {z : Nat} {zs : j_Zs} {ca : Nat → ClassId} {Y : j_Y} {d mc ms : Nat} (X : j_X K (k_G D ca z zs) Y d mc ms) {pc : Nat} {lv : List (Nat × Value)} {st : List Value} {s : k_S} {kd ix n ti k2 ix2 : Nat} {g : Nat → Nat → Nat} {C : String} {i : Int32} (hk : kt kd = .inr (.inr (ti, n, k2, g))) (hty : (k_tys ca)[ti]? = some (ca ti, .object C)) (hd : decode Y.2.1 pc = .ok (.aaload, 1)) (hi : ix < cnt kd) (hin : vp_in i n) (hg : g ix i.toNatClampNeg = ix2) (k : j_V K (k_G D ca z zs) Y (pc + 1) lv (.ref (ad z k2 ix2) :: st) (k_M ca z s)) : j_V K (k_G D ca z zs) Y pc lv (.int i :: .ref (ad z kd ix) :: st) (k_M ca z s) := by
  subst hg
  refine v_aaload X (ti := ti) hty hd (n := n) (f := fun j => if j < n then some (ad z k2 (g ix j)) else none) ?_ hin (by rw [if_pos (Nat.not_le.mp fun q => hin (Or.inr q))]; rfl) k
  rw [k_at hi]
  unfold k_cell
  rw [hk]
theorem w_alen {K : j_K} {D : va_G} {z : Nat} {zs : j_Zs} {ca : Nat → ClassId} {Y : j_Y} {d mc ms : Nat} (X : j_X K (k_G D ca z zs) Y d mc ms) {pc : Nat} {lv : List (Nat × Value)} {st : List Value} {s : k_S} {kd ix n : Nat} {v : Int32} (hk : kt kd = .inr (.inl (0, n))) (hd : decode Y.2.1 pc = .ok (.arraylength, 1)) (hi : ix < cnt kd) (hv : Int32.ofNat n = v) (k : j_V K (k_G D ca z zs) Y (pc + 1) lv (.int v :: st) (k_M ca z s)) : j_V K (k_G D ca z zs) Y pc lv (.ref (ad z kd ix) :: st) (k_M ca z s) := by
  refine v_alen X (ti := 0) (cA := ca 0) (ty := .int) rfl hd (x := (n, .inl (s kd ix))) ?_ hv k
  rw [k_at hi]
  unfold k_cell
  rw [hk]
theorem w_callV {K : j_K} {D : va_G} {z : Nat} {zs : j_Zs} {ca : Nat → ClassId} {Y : j_Y} {d : Nat} (X : j_X K (k_G D ca z zs) Y d 0 0) {pc : Nat} {lv : List (Nat × Value)} {st : List Value} {s : k_S} {i n d1 : Nat} {Y1 : j_Y} {Q : Option Value → k_S → Prop} {As rest : List Value} {kd ix ci N : Nat} {Tb : u_T} {sl : List (Option (Nat × (Nat → Nat)))} (hk : kt kd = .inl (ci, sl)) (hci : vwCl[ci]? = some (Y1.1.cls, Tb, N)) (lk : j_L (k_G D ca z zs) Y.1.cls i n Y1 0) (hd : decode Y.2.1 pc = .ok (.invokevirtual i, 3)) (hi : ix < cnt kd) (hC : k_C D z zs ca Y1 d1 (.ref (ad z kd ix) :: As) s Q) (hst : st = As.reverse ++ .ref (ad z kd ix) :: rest) {Q0 : Option Value → k_S → Prop} (E : k_R K D z zs ca Q0) (hd1 : d1 + 1 ≤ d) (hn : As.length = n) (hrest : (rest.map fun v => v.category).sum ≤ 8) (kk : ∀ (r : Option Value) (s1 : k_S), Q r s1 → j_V K (k_G D ca z zs) Y (pc + 3) lv (r.toList ++ rest) (k_M ca z s1)) : j_V K (k_G D ca z zs) Y pc lv st (k_M ca z s) := by
  obtain ⟨s0, E, B⟩ := E
  refine v_callV X lk hC hci (fs := k_slots z ix (s kd ix) sl) ?_ hd hst B hd1 (Nat.le_refl _) (Nat.le_refl _) hn hrest (fun r M1 hq _ _ => by obtain ⟨s1, rfl, hq⟩ := hq; exact kk r s1 hq)
  rw [k_at hi]
  unfold k_cell
  rw [hk]
theorem w_callS {K : j_K} {D : va_G} {z : Nat} {zs : j_Zs} {ca : Nat → ClassId} {Y : j_Y} {d : Nat} (X : j_X K (k_G D ca z zs) Y d 0 0) {pc : Nat} {lv : List (Nat × Value)} {st : List Value} {s : k_S} {i n d1 : Nat} {Y1 : j_Y} {Q : Option Value → k_S → Prop} {As rest : List Value} (lk : j_L (k_G D ca z zs) Y.1.cls i n Y1 1) (hd : decode Y.2.1 pc = .ok (.invokestatic i, 3)) (hC : k_C D z zs ca Y1 d1 As s Q) (hst : st = As.reverse ++ rest) {Q0 : Option Value → k_S → Prop} (E : k_R K D z zs ca Q0) (hd1 : d1 + 1 ≤ d) (hn : As.length = n) (hrest : (rest.map fun v => v.category).sum ≤ 8) (kk : ∀ (r : Option Value) (s1 : k_S), Q r s1 → j_V K (k_G D ca z zs) Y (pc + 3) lv (r.toList ++ rest) (k_M ca z s1)) : j_V K (k_G D ca z zs) Y pc lv st (k_M ca z s) := by
  obtain ⟨s0, E, B⟩ := E
  exact v_callS X lk hC hd hst B hd1 (Nat.le_refl _) (Nat.le_refl _) hn hrest (fun r M1 hq _ _ => by obtain ⟨s1, rfl, hq⟩ := hq; exact kk r s1 hq)
theorem w_max {K : j_K} {D : va_G} {z : Nat} {zs : j_Zs} {ca : Nat → ClassId} {Y : j_Y} {d : Nat} (X : j_X K (k_G D ca z zs) Y d 0 0) {pc : Nat} {lv : List (Nat × Value)} {st : List Value} {s : k_S} {i : Nat} {x y : Int32} {Q0 : Option Value → k_S → Prop} (E : k_R K D z zs ca Q0) (hlk : Cond.methodLink Y.1.cls i Lib.Math.max.name ∈ jT ∧ Cond.static Lib.Math.max.name ∈ jT ∧ Cond.initialized "java/lang/Math" ∈ jT ∧ Cond.code Lib.Math.max.name Lib.Math.max.code 2 (some .int) ∈ jT) (hd : decode Y.2.1 pc = .ok (.invokestatic i, 3)) (hd1 : 1 ≤ d) (hrest : (st.map fun v => v.category).sum ≤ 8) (k : j_V K (k_G D ca z zs) Y (pc + 3) lv (.int (if x < y then y else x) :: st) (k_M ca z s)) : j_V K (k_G D ca z zs) Y pc lv (.int y :: .int x :: st) (k_M ca z s) := by
  obtain ⟨s0, E, B⟩ := E
  exact v_mmax X hlk hd hd1 hrest B (Nat.le_refl _) (Nat.le_refl _) k
theorem w_iret {K : j_K} {D : va_G} {z : Nat} {zs : j_Zs} {ca : Nat → ClassId} {Y : j_Y} {d : Nat} (X : j_X K (k_G D ca z zs) Y d 0 0) {pc : Nat} {lv : List (Nat × Value)} {s : k_S} {Q : Option Value → k_S → Prop} (E : k_R K D z zs ca Q) {ty : FieldType} {v : Int32} (hd : decode Y.2.1 pc = .ok (.ireturn, 1)) (hty : Y.2.2.2 = some ty) (hn : narrow ty (.int v) = .int v) (hq : Q (some (.int v)) s) : j_V K (k_G D ca z zs) Y pc lv [.int v] (k_M ca z s) := by
  obtain ⟨s0, E, B⟩ := E
  exact v_iret X E hd hty hn ⟨s, rfl, hq⟩ rfl rfl
theorem w_vret {K : j_K} {D : va_G} {z : Nat} {zs : j_Zs} {ca : Nat → ClassId} {Y : j_Y} {d : Nat} (X : j_X K (k_G D ca z zs) Y d 0 0) {pc : Nat} {lv : List (Nat × Value)} {s : k_S} {Q : Option Value → k_S → Prop} (E : k_R K D z zs ca Q) (hd : decode Y.2.1 pc = .ok (.return_, 1)) (hty : Y.2.2.2 = none) (hq : Q none s) : j_V K (k_G D ca z zs) Y pc lv [] (k_M ca z s) := by
  obtain ⟨s0, E, B⟩ := E
  exact v_vret X E hd hty ⟨s, rfl, hq⟩ rfl rfl
theorem w_aret {K : j_K} {D : va_G} {z : Nat} {zs : j_Zs} {ca : Nat → ClassId} {Y : j_Y} {d : Nat} (X : j_X K (k_G D ca z zs) Y d 0 0) {pc : Nat} {lv : List (Nat × Value)} {s : k_S} {Q : Option Value → k_S → Prop} (E : k_R K D z zs ca Q) {C : String} {v : Value} (hd : decode Y.2.1 pc = .ok (.areturn, 1)) (hty : Y.2.2.2 = some (.object C)) (hv : v = .null ∨ ∃ a, v = .ref a) (hq : Q (some v) s) : j_V K (k_G D ca z zs) Y pc lv [v] (k_M ca z s) := by
  obtain ⟨s0, E, B⟩ := E
  exact v_aret X E hd hty hv ⟨s, rfl, hq⟩ rfl rfl
/-- the answer and the memory behind it, as functions -/
abbrev k_F (D : va_G) (z : Nat) (zs : j_Zs) (ca : Nat → ClassId) (Y : j_Y) (d : Nat) (av : List Value) (s : k_S) (r : Option Value) (s' : k_S) : Prop := k_C D z zs ca Y d av s (fun r1 s1 => r1 = r ∧ s1 = s')
def jb (p : Prop) [Decidable p] : Int32 := if p then 1 else 0
theorem jb_0 {p : Prop} [Decidable p] : jb p = 0 ↔ ¬ p := by
  unfold jb
  by_cases h : p
  · simp [h]
  · simp [h]
theorem jb_n {p : Prop} [Decidable p] : ¬ jb p = 0 ↔ p := by
  rw [jb_0]
  exact Decidable.not_not
theorem jb_t {p : Prop} [Decidable p] (h : p) : jb p = 1 := if_pos h
theorem jb_f {p : Prop} [Decidable p] (h : ¬ p) : jb p = 0 := if_neg h
theorem v_int {K : j_K} {G : j_G} {Y : j_Y} {pc : Nat} {lv : List (Nat × Value)} {st : List Value} {M : j_M} {x y : Int32} (e : x = y) (k : j_V K G Y pc lv (.int y :: st) M) : j_V K G Y pc lv (.int x :: st) M := by
  rw [e]
  exact k
theorem k_set_at {s : k_S} {kd ix j : Nat} {v : Int32} : k_set s kd ix j v kd ix j = v := by
  simp [k_set, k_up, upd]
theorem k_set_of {s : k_S} {kd ix j k i q : Nat} {v : Int32} : k_set s kd ix j v k i q = if k = kd ∧ i = ix ∧ q = j then v else s k i q := by
  unfold k_set k_up
  by_cases h : k = kd ∧ i = ix
  · obtain ⟨rfl, rfl⟩ := h
    by_cases hq : q = j
    · simp [upd, hq]
    · simp [upd, hq]
  · rw [if_neg h, if_neg (fun x => h ⟨x.1, x.2.1⟩)]
theorem k_set_id {s : k_S} {kd ix j : Nat} {v : Int32} (h : s kd ix j = v) : k_set s kd ix j v = s := by
  funext k i q
  rw [k_set_of]
  by_cases hh : k = kd ∧ i = ix ∧ q = j
  · rw [if_pos hh, hh.1, hh.2.1, hh.2.2, h]
  · rw [if_neg hh]
theorem w_fVi {K : j_K} {D : va_G} {z : Nat} {zs : j_Zs} {ca : Nat → ClassId} {Y : j_Y} {d : Nat} (X : j_X K (k_G D ca z zs) Y d 0 0) {pc : Nat} {lv : List (Nat × Value)} {st : List Value} {s : k_S} {i n d1 : Nat} {Y1 : j_Y} {As rest : List Value} {s' : k_S} {kd ix ci N : Nat} {Tb : u_T} {sl : List (Option (Nat × (Nat → Nat)))} {x : Int32} (hk : kt kd = .inl (ci, sl)) (hci : vwCl[ci]? = some (Y1.1.cls, Tb, N)) (lk : j_L (k_G D ca z zs) Y.1.cls i n Y1 0) (hd : decode Y.2.1 pc = .ok (.invokevirtual i, 3)) (hi : ix < cnt kd) (hC : k_F D z zs ca Y1 d1 (.ref (ad z kd ix) :: As) s (some (.int x)) s') (hst : st = As.reverse ++ .ref (ad z kd ix) :: rest) {Q0 : Option Value → k_S → Prop} (E : k_R K D z zs ca Q0) (hd1 : d1 + 1 ≤ d) (hn : As.length = n) (hrest : (rest.map fun v => v.category).sum ≤ 8) (k : j_V K (k_G D ca z zs) Y (pc + 3) lv (.int x :: rest) (k_M ca z s')) : j_V K (k_G D ca z zs) Y pc lv st (k_M ca z s) := by
  exact w_callV X hk hci lk hd hi hC hst E hd1 hn hrest (fun r s1 hq => by obtain ⟨rfl, rfl⟩ := hq; exact k)
theorem w_fSi {K : j_K} {D : va_G} {z : Nat} {zs : j_Zs} {ca : Nat → ClassId} {Y : j_Y} {d : Nat} (X : j_X K (k_G D ca z zs) Y d 0 0) {pc : Nat} {lv : List (Nat × Value)} {st : List Value} {s : k_S} {i n d1 : Nat} {Y1 : j_Y} {As rest : List Value} {s' : k_S} {x : Int32} (lk : j_L (k_G D ca z zs) Y.1.cls i n Y1 1) (hd : decode Y.2.1 pc = .ok (.invokestatic i, 3)) (hC : k_F D z zs ca Y1 d1 As s (some (.int x)) s') (hst : st = As.reverse ++ rest) {Q0 : Option Value → k_S → Prop} (E : k_R K D z zs ca Q0) (hd1 : d1 + 1 ≤ d) (hn : As.length = n) (hrest : (rest.map fun v => v.category).sum ≤ 8) (k : j_V K (k_G D ca z zs) Y (pc + 3) lv (.int x :: rest) (k_M ca z s')) : j_V K (k_G D ca z zs) Y pc lv st (k_M ca z s) := by
  exact w_callS X lk hd hC hst E hd1 hn hrest (fun r s1 hq => by obtain ⟨rfl, rfl⟩ := hq; exact k)
theorem w_fVv {K : j_K} {D : va_G} {z : Nat} {zs : j_Zs} {ca : Nat → ClassId} {Y : j_Y} {d : Nat} (X : j_X K (k_G D ca z zs) Y d 0 0) {pc : Nat} {lv : List (Nat × Value)} {st : List Value} {s : k_S} {i n d1 : Nat} {Y1 : j_Y} {As rest : List Value} {s' : k_S} {kd ix ci N : Nat} {Tb : u_T} {sl : List (Option (Nat × (Nat → Nat)))}  (hk : kt kd = .inl (ci, sl)) (hci : vwCl[ci]? = some (Y1.1.cls, Tb, N)) (lk : j_L (k_G D ca z zs) Y.1.cls i n Y1 0) (hd : decode Y.2.1 pc = .ok (.invokevirtual i, 3)) (hi : ix < cnt kd) (hC : k_F D z zs ca Y1 d1 (.ref (ad z kd ix) :: As) s none s') (hst : st = As.reverse ++ .ref (ad z kd ix) :: rest) {Q0 : Option Value → k_S → Prop} (E : k_R K D z zs ca Q0) (hd1 : d1 + 1 ≤ d) (hn : As.length = n) (hrest : (rest.map fun v => v.category).sum ≤ 8) (k : j_V K (k_G D ca z zs) Y (pc + 3) lv rest (k_M ca z s')) : j_V K (k_G D ca z zs) Y pc lv st (k_M ca z s) := by
  exact w_callV X hk hci lk hd hi hC hst E hd1 hn hrest (fun r s1 hq => by obtain ⟨rfl, rfl⟩ := hq; exact k)
theorem w_fSv {K : j_K} {D : va_G} {z : Nat} {zs : j_Zs} {ca : Nat → ClassId} {Y : j_Y} {d : Nat} (X : j_X K (k_G D ca z zs) Y d 0 0) {pc : Nat} {lv : List (Nat × Value)} {st : List Value} {s : k_S} {i n d1 : Nat} {Y1 : j_Y} {As rest : List Value} {s' : k_S}  (lk : j_L (k_G D ca z zs) Y.1.cls i n Y1 1) (hd : decode Y.2.1 pc = .ok (.invokestatic i, 3)) (hC : k_F D z zs ca Y1 d1 As s none s') (hst : st = As.reverse ++ rest) {Q0 : Option Value → k_S → Prop} (E : k_R K D z zs ca Q0) (hd1 : d1 + 1 ≤ d) (hn : As.length = n) (hrest : (rest.map fun v => v.category).sum ≤ 8) (k : j_V K (k_G D ca z zs) Y (pc + 3) lv rest (k_M ca z s')) : j_V K (k_G D ca z zs) Y pc lv st (k_M ca z s) := by
  exact w_callS X lk hd hC hst E hd1 hn hrest (fun r s1 hq => by obtain ⟨rfl, rfl⟩ := hq; exact k)
theorem w_fVr {K : j_K} {D : va_G} {z : Nat} {zs : j_Zs} {ca : Nat → ClassId} {Y : j_Y} {d : Nat} (X : j_X K (k_G D ca z zs) Y d 0 0) {pc : Nat} {lv : List (Nat × Value)} {st : List Value} {s : k_S} {i n d1 : Nat} {Y1 : j_Y} {As rest : List Value} {s' : k_S} {kd ix ci N : Nat} {Tb : u_T} {sl : List (Option (Nat × (Nat → Nat)))} {x : Value} (hk : kt kd = .inl (ci, sl)) (hci : vwCl[ci]? = some (Y1.1.cls, Tb, N)) (lk : j_L (k_G D ca z zs) Y.1.cls i n Y1 0) (hd : decode Y.2.1 pc = .ok (.invokevirtual i, 3)) (hi : ix < cnt kd) (hC : k_F D z zs ca Y1 d1 (.ref (ad z kd ix) :: As) s (some x) s') (hst : st = As.reverse ++ .ref (ad z kd ix) :: rest) {Q0 : Option Value → k_S → Prop} (E : k_R K D z zs ca Q0) (hd1 : d1 + 1 ≤ d) (hn : As.length = n) (hrest : (rest.map fun v => v.category).sum ≤ 8) (k : j_V K (k_G D ca z zs) Y (pc + 3) lv (x :: rest) (k_M ca z s')) : j_V K (k_G D ca z zs) Y pc lv st (k_M ca z s) := by
  exact w_callV X hk hci lk hd hi hC hst E hd1 hn hrest (fun r s1 hq => by obtain ⟨rfl, rfl⟩ := hq; exact k)
theorem w_fSr {K : j_K} {D : va_G} {z : Nat} {zs : j_Zs} {ca : Nat → ClassId} {Y : j_Y} {d : Nat} (X : j_X K (k_G D ca z zs) Y d 0 0) {pc : Nat} {lv : List (Nat × Value)} {st : List Value} {s : k_S} {i n d1 : Nat} {Y1 : j_Y} {As rest : List Value} {s' : k_S} {x : Value} (lk : j_L (k_G D ca z zs) Y.1.cls i n Y1 1) (hd : decode Y.2.1 pc = .ok (.invokestatic i, 3)) (hC : k_F D z zs ca Y1 d1 As s (some x) s') (hst : st = As.reverse ++ rest) {Q0 : Option Value → k_S → Prop} (E : k_R K D z zs ca Q0) (hd1 : d1 + 1 ≤ d) (hn : As.length = n) (hrest : (rest.map fun v => v.category).sum ≤ 8) (k : j_V K (k_G D ca z zs) Y (pc + 3) lv (x :: rest) (k_M ca z s')) : j_V K (k_G D ca z zs) Y pc lv st (k_M ca z s) := by
  exact w_callS X lk hd hC hst E hd1 hn hrest (fun r s1 hq => by obtain ⟨rfl, rfl⟩ := hq; exact k)
theorem w_ialdN {K : j_K} {D : va_G} {z : Nat} {zs : j_Zs} {ca : Nat → ClassId} {Y : j_Y} {d mc ms : Nat} (X : j_X K (k_G D ca z zs) Y d mc ms) {pc : Nat} {lv : List (Nat × Value)} {st : List Value} {s : k_S} {kd ix n : Nat} {i : Int32} (j : Nat) (hij : i = nI j) (hk : kt kd = .inr (.inl (0, n))) (hd : decode Y.2.1 pc = .ok (.iaload, 1)) (hi : ix < cnt kd) (hin : j < n) (hn : n < 2 ^ 31) (k : j_V K (k_G D ca z zs) Y (pc + 1) lv (.int (s kd ix j) :: st) (k_M ca z s)) : j_V K (k_G D ca z zs) Y pc lv (.int i :: .ref (ad z kd ix) :: st) (k_M ca z s) := by
  subst hij
  refine w_iald X hk hd hi (vp_in_nI hin hn) ?_
  rw [nI_clamp (by omega)]
  exact k
theorem w_iastN {K : j_K} {D : va_G} {z : Nat} {zs : j_Zs} {ca : Nat → ClassId} {Y : j_Y} {d mc ms : Nat} (X : j_X K (k_G D ca z zs) Y d mc ms) {pc : Nat} {lv : List (Nat × Value)} {st : List Value} {s : k_S} {kd ix n : Nat} {i x : Int32} (j : Nat) (hij : i = nI j) (hk : kt kd = .inr (.inl (0, n))) (hd : decode Y.2.1 pc = .ok (.iastore, 1)) (hi : ix < cnt kd) (hin : j < n) (hn : n < 2 ^ 31) (k : j_V K (k_G D ca z zs) Y (pc + 1) lv st (k_M ca z (k_set s kd ix j x))) : j_V K (k_G D ca z zs) Y pc lv (.int x :: .int i :: .ref (ad z kd ix) :: st) (k_M ca z s) := by
  subst hij
  refine w_iast X hk hd hi (vp_in_nI hin hn) ?_
  rw [nI_clamp (by omega)]
  exact k
theorem w_baldN {K : j_K} {D : va_G} {z : Nat} {zs : j_Zs} {ca : Nat → ClassId} {Y : j_Y} {d mc ms : Nat} (X : j_X K (k_G D ca z zs) Y d mc ms) {pc : Nat} {lv : List (Nat × Value)} {st : List Value} {s : k_S} {kd ix n : Nat} {i : Int32} (j : Nat) (hij : i = nI j) (hk : kt kd = .inr (.inl (1, n))) (hd : decode Y.2.1 pc = .ok (.baload, 1)) (hi : ix < cnt kd) (hin : j < n) (hn : n < 2 ^ 31) (k : j_V K (k_G D ca z zs) Y (pc + 1) lv (.int (s kd ix j) :: st) (k_M ca z s)) : j_V K (k_G D ca z zs) Y pc lv (.int i :: .ref (ad z kd ix) :: st) (k_M ca z s) := by
  subst hij
  refine w_bald X hk hd hi (vp_in_nI hin hn) ?_
  rw [nI_clamp (by omega)]
  exact k
theorem w_bastN {K : j_K} {D : va_G} {z : Nat} {zs : j_Zs} {ca : Nat → ClassId} {Y : j_Y} {d mc ms : Nat} (X : j_X K (k_G D ca z zs) Y d mc ms) {pc : Nat} {lv : List (Nat × Value)} {st : List Value} {s : k_S} {kd ix n : Nat} {i x : Int32} (j : Nat) (hij : i = nI j) (hk : kt kd = .inr (.inl (1, n))) (hd : decode Y.2.1 pc = .ok (.bastore, 1)) (hi : ix < cnt kd) (hin : j < n) (hn : n < 2 ^ 31) (hx1 : vp_nar .boolean x = x) (k : j_V K (k_G D ca z zs) Y (pc + 1) lv st (k_M ca z (k_set s kd ix j x))) : j_V K (k_G D ca z zs) Y pc lv (.int x :: .int i :: .ref (ad z kd ix) :: st) (k_M ca z s) := by
  subst hij
  refine w_bast X hk hd hi (vp_in_nI hin hn) hx1 ?_
  rw [nI_clamp (by omega)]
  exact k
theorem w_aaldN {K : j_K} {D : va_G} {z : Nat} {zs : j_Zs} {ca : Nat → ClassId} {Y : j_Y} {d mc ms : Nat} (X : j_X K (k_G D ca z zs) Y d mc ms) {pc : Nat} {lv : List (Nat × Value)} {st : List Value} {s : k_S} {kd ix n ti k2 ix2 : Nat} {g : Nat → Nat → Nat} {C : String} {i : Int32} (j : Nat) (hij : i = nI j) (hk : kt kd = .inr (.inr (ti, n, k2, g))) (hty : (k_tys ca)[ti]? = some (ca ti, .object C)) (hd : decode Y.2.1 pc = .ok (.aaload, 1)) (hg : g ix j = ix2) (hi : ix < cnt kd) (hin : j < n) (hn : n < 2 ^ 31) (k : j_V K (k_G D ca z zs) Y (pc + 1) lv (.ref (ad z k2 ix2) :: st) (k_M ca z s)) : j_V K (k_G D ca z zs) Y pc lv (.int i :: .ref (ad z kd ix) :: st) (k_M ca z s) := by
  subst hij
  refine w_aald X hk hty hd hi (vp_in_nI hin hn) ?_ k
  rw [nI_clamp (by omega)]
  exact hg
