theorem law_kn (l : Launch) {s : State} {b L : Nat} {xs : Nat → Int32} (hts : ∀ w ∈ lw_tbl, w.before #[Value.ref b] s = true) (hX : va_X b L xs s s.heap) (hbl : b < s.heap.size) (hgv : (Jvm.Cond.and given_1 narrow_1).before #[Value.ref b] s = true) : ∃ E : kx_E, kx_l E = l ∧ kx_b E = b ∧ kx_L E = L ∧ kx_ba E = s.heap.size ∧ kx_kn E s ∧ kx_w2 E kx_M0 s.heap := by
  have hfl := flat_of_before _ hgv
  have hnA : ∀ a : Nat, a < s.heap.size → ¬ (fun q : Nat => s.heap.size ≤ q) a := fun a h z => absurd (show s.heap.size ≤ a from z) (by omega)
  obtain ⟨c0, i0, k0⟩ := u_known (C := RJx4a65c) (T := TJx4a65c) (N := 3) (n := 3) hts (fun w hw => (in_wsJx4a65c0 w hw).1) (hts _ inst_0)
  obtain ⟨c1, i1, k1⟩ := u_known (C := RX0) (T := TX0) (N := 11) (n := 11) hts (fun w hw => (in_wsX00 w hw).1) (hts _ inst_1)
  obtain ⟨c2, i2, k2⟩ := u_known (C := RX1) (T := TX1) (N := 1) (n := 1) hts (fun w hw => (in_wsX10 w hw).1) (hts _ inst_2)
  obtain ⟨c3, i3, k3⟩ := u_known (C := RX2) (T := TX2) (N := 10) (n := 10) hts (fun w hw => (in_wsX20 w hw).1) (hts _ inst_3)
  obtain ⟨c4, i4, k4⟩ := u_known (C := RX3) (T := TX3) (N := 7) (n := 7) hts (fun w hw => (in_wsX30 w hw).1) (hts _ inst_4)
  obtain ⟨c5, i5, k5⟩ := u_known (C := RX4) (T := TX4) (N := 5) (n := 5) hts (fun w hw => (in_wsX40 w hw).1) (hts _ inst_5)
  obtain ⟨c6, i6, k6⟩ := u_known (C := RX5) (T := TX5) (N := 12) (n := 12) hts (fun w hw => (in_wsX50 w hw).1) (hts _ inst_6)
  obtain ⟨c7, i7, k7⟩ := u_known (C := RX6) (T := TX6) (N := 8) (n := 8) hts (fun w hw => (in_wsX60 w hw).1) (hts _ inst_7)
  obtain ⟨c8, i8, k8⟩ := u_known (C := RX7) (T := TX7) (N := 7) (n := 7) hts (fun w hw => (in_wsX70 w hw).1) (hts _ inst_8)
  obtain ⟨c9, i9, k9⟩ := u_known (C := RX8) (T := TX8) (N := 4) (n := 4) hts (fun w hw => (in_wsX80 w hw).1) (hts _ inst_9)
  obtain ⟨c10, i10, k10⟩ := u_known (C := RX9) (T := TX9) (N := 18) (n := 18) hts (fun w hw => (in_wsX90 w hw).1) (hts _ inst_10)
  obtain ⟨dC, dI, hKc⟩ : ∃ (dC : Nat → ClassId) (dI : Nat → Nat → Nat), ∀ (k : Nat) (q : vw_C), vwCl[k]? = some q → u_Kn s q.1 q.2.1 q.2.2 (dC k) (dI k) := by
    refine ⟨fun k => match k with
      | 0 => c0
      | 1 => c1
      | 2 => c2
      | 3 => c3
      | 4 => c4
      | 5 => c5
      | 6 => c6
      | 7 => c7
      | 8 => c8
      | 9 => c9
      | _ => c10, fun k => match k with
      | 0 => i0
      | 1 => i1
      | 2 => i2
      | 3 => i3
      | 4 => i4
      | 5 => i5
      | 6 => i6
      | 7 => i7
      | 8 => i8
      | 9 => i9
      | _ => i10, ?_⟩
    intro k q hq
    match k, hq with
    | 0, hq => cases hq; exact k0
    | 1, hq => cases hq; exact k1
    | 2, hq => cases hq; exact k2
    | 3, hq => cases hq; exact k3
    | 4, hq => cases hq; exact k4
    | 5, hq => cases hq; exact k5
    | 6, hq => cases hq; exact k6
    | 7, hq => cases hq; exact k7
    | 8, hq => cases hq; exact k8
    | 9, hq => cases hq; exact k9
    | 10, hq => cases hq; exact k10
    | k + 11, hq => simp [vwCl] at hq
  have hcast : ∀ (ci : Nat) (r : vw_C), vwCl[ci]? = some r → va_Nw (.castable r.1 "java/lang/Object") s := by
    intro k q hq
    match k, hq with
    | 0, hq => cases hq; exact va_Nw.of rfl (hts _ cast_0)
    | 1, hq => cases hq; exact va_Nw.of rfl (hts _ cast_1)
    | 2, hq => cases hq; exact va_Nw.of rfl (hts _ cast_2)
    | 3, hq => cases hq; exact va_Nw.of rfl (hts _ cast_3)
    | 4, hq => cases hq; exact va_Nw.of rfl (hts _ cast_4)
    | 5, hq => cases hq; exact va_Nw.of rfl (hts _ cast_5)
    | 6, hq => cases hq; exact va_Nw.of rfl (hts _ cast_6)
    | 7, hq => cases hq; exact va_Nw.of rfl (hts _ cast_7)
    | 8, hq => cases hq; exact va_Nw.of rfl (hts _ cast_8)
    | 9, hq => cases hq; exact va_Nw.of rfl (hts _ cast_9)
    | 10, hq => cases hq; exact va_Nw.of rfl (hts _ cast_10)
    | k + 11, hq => simp [vwCl] at hq
  obtain ⟨cI, kI, compI, a1, a2, a3⟩ := Cond.arrayClass_spec (hts _ in_w1)
  obtain ⟨compO, cO, kO, o1, o2, o3, o4, o5⟩ := Cond.arrayOver_spec (hts _ in_w2)
  obtain ⟨mi, hmi⟩ := va_Mi.of (C := "[Ljava/lang/Object;") (hfl (.isRef (.mirror "[Ljava/lang/Object;")) (by decide +kernel))
  have hlen : (Term.length (.static "java/util/ArrayList" "DEFAULTCAPACITY_EMPTY_ELEMENTDATA" "[Ljava/lang/Object;")).eval #[Value.ref b] s none [] s = some (.int 0) := va_eqt (hfl (.eq (.length (.static "java/util/ArrayList" "DEFAULTCAPACITY_EMPTY_ELEMENTDATA" "[Ljava/lang/Object;")) (.int 0)) (by decide +kernel))
  obtain ⟨t0, cell, ht, hat, hsz, hsm⟩ := len_small hlen
  have hs0 := size_0 hsm hsz
  obtain ⟨hcell, hkn, -, -⟩ := State.arrayAt?_spec hat
  obtain ⟨hof, -⟩ := Cond.arrayOf_spec (hfl (.arrayOf (.static "java/util/ArrayList" "DEFAULTCAPACITY_EMPTY_ELEMENTDATA" "[Ljava/lang/Object;") (.object "java/lang/Object")) (by decide +kernel)) ht hcell
  obtain ⟨cf, kf, fi, f, sa, sc, z1, z2, z3, z4, z5, z6, z7, -⟩ := va_Zref (A := fun q : Nat => s.heap.size ≤ q) (hts _ in_w3) (hts _ in_w4) ht hnA
  obtain ⟨scr, x1, x2, x3, x4, x5⟩ := hX
  refine ⟨(l, (dC, dI), (fun j => match j with
    | 0 => cI
    | _ => cO), (t0, mi, s.heap.size, sa), (sc, cell), (b, L, xs, scr)), rfl, rfl, rfl, rfl, ?_, ?_⟩
  · refine ⟨⟨hKc, fun k q hq => ?_⟩, hmi, va_Dc.of (hts _ in_w5), va_AO.of (hts _ in_w2), ⟨cf, kf, fi, f, z1, z2, z3, z4, z7⟩, z6, hof, hs0, x2, x3, x4, x5, fun ci r comp hr hf => vb_asgC (hcast ci r hr) comp (dC ci) hf (hKc ci r hr).2.1, fun q hq => va_Nw.of rfl (hts _ (nest_in q hq))⟩
    match k, hq with
    | 0, hq =>
      cases hq
      exact ⟨fun n z => ⟨fun k h => (by cases h), kI, a2, compI, a3⟩, a1⟩
    | 1, hq =>
      cases hq
      exact ⟨fun n z => ⟨fun k h => (by cases h), kO, o3, compO, o4⟩, kO, compO, o3, o4, o1, o5⟩
    | k + 2, hq => simp at hq
  · have hlt : ∀ {a : Nat} {c : Cell}, s.heap[a]? = some c → a < s.heap.size := fun h => (Array.getElem?_eq_some_iff.mp h).1
    refine ⟨kx_M0, ⟨fun a ci r _ h => absurd (show 0 = ci + 1 from h) (by omega), fun a h => absurd (show 0 = 20 from h) (by decide), fun a h => absurd (show 0 = 21 from h) (by decide), fun a h => absurd rfl h, z5, hcell, x1, hlt z5, hlt hcell, hbl, Nat.le_refl _⟩, ⟨fun a h => absurd rfl h, fun i a h => absurd rfl h, fun a h => absurd (show 0 = 20 from h) (by decide), fun a h => absurd (show 0 = 1 from h) (by decide), fun a b d h => absurd (show 0 = 1 from h) (by decide), fun a h => absurd (show 0 = 3 from h) (by decide), fun a b d h => absurd (show 0 = 3 from h) (by decide), fun a h => absurd (show 0 = 12 from h) (by decide)⟩⟩
/-- from the entry, for every script of at most 260 ints, the law comes to its end with true -/
theorem whole_start {p : Program} {e : Env} {s : State} {m : MethodId} {below : List Frame} {meth : Method} {c : Code} (l : Launch) (hflags : l.flags = flags0) {b L : Nat} {xs : Nat → Int32} (hL : L ≤ 260) (C0 : lw_At p s m meth c b L xs) : W p l e room_1 s m #[Value.ref b] below meth c s.heap [] 0 0 (lw_Z below #[Value.ref b] s) (entryFrame m ([Value.ref b] : List Value).toArray 20) := by
  obtain ⟨hx, hb, hr, hml, hown, hts, hX, hbl, hlocks, hgv⟩ := C0
  obtain ⟨E, e1, e2, e3, e4, hkn, hw⟩ := law_kn l hts hX hbl hgv
  subst e1
  subst e2
  have hLE : kx_L E ≤ 260 := by rw [e3]; exact hL
  have C : kx_C E p s m #[Value.ref (kx_b E)] meth c cL_law 20 wsL_law RL := ⟨hx, hb, hml, fun w hw => hts w (in_wsL_law w hw).1, hown, hkn⟩
  have hA := all_L_lawA (e := e) (below := below) (fun _ _ => True) C e4 hr hlocks
  have hB := all_L_lawB (e := e) (below := below) (fun _ _ => True) C e4 hr hlocks
  have hC := all_L_lawC (e := e) (below := below) (fun _ _ => True) C e4 hr hlocks
  have hD := all_L_lawD (e := e) (below := below) (fun _ _ => True) C e4 hr hlocks
  have hF := all_L_lawF (e := e) (below := below) (fun _ _ => True) C e4 hr hlocks
  have hI' := all_L_lawI (e := e) (below := below) (fun _ _ => True) C e4 hr hlocks
  have hJ := all_L_lawJ (e := e) (below := below) (fun _ _ => True) C e4 hr hlocks
  have hT := all_L_lawT (e := e) (below := below) (fun _ _ => True) C e4 hr hlocks
  have hZ := all_L_lawZ (e := e) (below := below) (fun _ _ => True) C e4 hr hlocks
  have hG := law_entry E hA hLE (law_190 E hB hC hD hF hI' hJ hT hZ hLE) (bc := 600064) (bs := 7301640) (Nat.le_of_ble_eq_true rfl) (Nat.le_of_ble_eq_true rfl)
  have hl := lv_entry ([.ref (kx_b E)]) (n := 20) (Nat.le_of_ble_eq_true rfl)
  rw [lg_entry_eq]
  generalize (lg_sl ([.ref (kx_b E)]) ++ List.replicate (20 - (lg_sl ([.ref (kx_b E)])).length) Slot.unset).toArray = ls at hl ⊢
  have hl : lv_has ls 20 [(0, .ref (kx_b E))] := hl
  exact hG s.heap [] 0 0 ls hw (fun q hq => absurd hq List.not_mem_nil) hl (Nat.le_of_eq rfl) (Nat.le_of_eq rfl)
