theorem k_start {s : State} {b : Nat} (hts : ∀ w ∈ lw_tbl, w.before #[Value.ref b] s = true) (hgv : (Jvm.Cond.and given_1 narrow_1).before #[Value.ref b] s = true) : ∃ w : WP, w.1 = s.heap.size ∧ w.2.1 400 = b ∧ KX w s.heap s := by
  have hs : ∀ c ∈ flatC (Jvm.Cond.and given_1 narrow_1), c.before #[Value.ref b] s = true := flat_of_before _ hgv
  have hg : ∀ x ∈ gW, x.before #[Value.ref b] s = true := fun x hx => hts x (List.mem_filter.mp hx).1
  have hA : ∀ a : Nat, a < s.heap.size → ¬ (s.heap.size ≤ a) := fun a h => Nat.not_le.mpr h
  obtain ⟨D, hD⟩ := k_cls hg
  obtain ⟨t0, a0, n0⟩ := k_arr (ty := .int) (hg _ m207)
  obtain ⟨t1, a1, n1⟩ := k_arr (ty := .long) (hg _ m299)
  obtain ⟨t2, a2, n2⟩ := k_arr (ty := .char) (hg _ m226)
  obtain ⟨t3, a3, n3⟩ := k_arr (ty := .boolean) (hg _ m1346)
  obtain ⟨t4, a4, n4⟩ := k_arrO (C := "TwoServes$Server") (hts _ (List.mem_of_getElem? (i := 116) (by decide +kernel)))
  obtain ⟨t5, a5, n5⟩ := k_arrO (C := "TwoServes$Court") (hts _ (List.mem_of_getElem? (i := 228) (by decide +kernel)))
  obtain ⟨t6, a6, n6⟩ := k_arrO (C := "TwoServes$Tape") (hts _ (List.mem_of_getElem? (i := 230) (by decide +kernel)))
  obtain ⟨t7, a7, n7⟩ := k_arrA (hts _ (List.mem_of_getElem? (i := 258) (by decide +kernel)))
  obtain ⟨t8, a8, n8⟩ := k_arrO (C := "java/lang/Object") (hts _ (List.mem_of_getElem? (i := 993) (by decide +kernel)))
  obtain ⟨ad, tc, td, sf, x1, x2, x3, x4, x5, x6, x7, x8, x9⟩ := k_ex (A := fun a => s.heap.size ≤ a) hts hs hA
  obtain ⟨adK, adV, hK, hev⟩ := k_str (A := fun a => s.heap.size ≤ a) hs hA
  obtain ⟨mi, hmi⟩ := va_Mi.of (C := "[Ljava/lang/Object;") (hs _ (by decide +kernel))
  have hAI := hts (Cond.arrayOver (.array .int)) (List.mem_of_getElem? (i := 258) (by decide +kernel))
  let f : Nat → Nat := fun i => if i < 256 then ad i else if i = 300 then tc else if i = 301 then td else if i = 302 then mi else if i = 400 then b else if i < 320 then adK (i - 310) else adV (i - 320)
  let tf9 : Nat → ClassId := fun i => match i with | 0 => t0 | 1 => t1 | 2 => t2 | 3 => t3 | 4 => t4 | 5 => t5 | 6 => t6 | 7 => t7 | _ => t8
  have fa : ∀ k, k < 256 → f k = ad k := fun k hk => if_pos hk
  have fk : ∀ i, i < 5 → f (310 + i) = adK i := fun i hi => match i, hi with | 0, _ | 1, _ | 2, _ | 3, _ | 4, _ => rfl
  have fv : ∀ i, i < 5 → f (320 + i) = adV i := fun i hi => match i, hi with | 0, _ | 1, _ | 2, _ | 3, _ | 4, _ => rfl
  have hev48 : (Term.string "TwoServes$Situation" 48).eval #[Value.ref b] s none [] s = some (.ref (adK 3)) := va_eqv (hs _ (by decide +kernel)) (hev 3 (by decide))
  refine ⟨(s.heap.size, f, sf, D, tf9), rfl, rfl, ⟨hD, fun k q hq => ?_⟩, ⟨k_nest hts, k_cast hts, k_nc hs, ?_, hmi, va_Dc.of (hts _ (List.mem_of_getElem? (i := 1736) (by decide +kernel))), va_AO.of (hts _ (List.mem_of_getElem? (i := 116) (by decide +kernel))), va_AO.of (hts _ (List.mem_of_getElem? (i := 228) (by decide +kernel))), va_AO.of (hts _ (List.mem_of_getElem? (i := 230) (by decide +kernel))), va_AO.of (hts _ (List.mem_of_getElem? (i := 993) (by decide +kernel))), hAI⟩, ⟨⟨fun k hk => ?_, fun k hk => ?_⟩, x2, ?_, x4, x5, x6, x7, ⟨fun i hi => ?_, fun i j hi hj he => ?_⟩, x8, x9⟩⟩
  · match k, hq with
    | 0, hq => cases hq; exact ⟨a0, n0⟩
    | 1, hq => cases hq; exact ⟨a1, n1⟩
    | 2, hq => cases hq; exact ⟨a2, n2⟩
    | 3, hq => cases hq; exact ⟨a3, n3⟩
    | 4, hq => cases hq; exact ⟨a4, n4⟩
    | 5, hq => cases hq; exact ⟨a5, n5⟩
    | 6, hq => cases hq; exact ⟨a6, n6⟩
    | 7, hq => cases hq; exact ⟨a7, n7⟩
    | 8, hq => cases hq; exact ⟨a8, n8⟩
    | k + 9, hq => simp [tyL] at hq
  · exact List.forall_mem_cons.mpr ⟨vk_R.of (hts _ (List.mem_of_getElem? (i := 117) (by decide +kernel))) (hev48), List.forall_mem_cons.mpr ⟨vk_R.of (hts _ (List.mem_of_getElem? (i := 579) (by decide +kernel))) (hev 0 (by decide)), List.forall_mem_cons.mpr ⟨vk_R.of (hts _ (List.mem_of_getElem? (i := 580) (by decide +kernel))) (hev 1 (by decide)), List.forall_mem_cons.mpr ⟨vk_R.of (hts _ (List.mem_of_getElem? (i := 581) (by decide +kernel))) (hev 2 (by decide)), List.forall_mem_cons.mpr ⟨vk_R.of (hts _ (List.mem_of_getElem? (i := 650) (by decide +kernel))) (hev 3 (by decide)), List.forall_mem_cons.mpr ⟨vk_R.of (hts _ (List.mem_of_getElem? (i := 706) (by decide +kernel))) (hev 4 (by decide)), fun _ z => absurd z List.not_mem_nil⟩⟩⟩⟩⟩⟩
  · show va_O _ (f k) _ _ _
    rw [fa k hk]
    exact x1.1 k hk
  · show va_OF _ _ _ _ (f k) _ _ _
    rw [fa k hk]
    exact x1.2 k hk
  · refine (show va_T (.object "java/lang/Integer") tc 256 (fun j => .ref (f j)) (fun a => s.heap.size ≤ a) s s.heap from ?_)
    obtain ⟨cell, y1, y2, y3, y4, y5, y6, y7⟩ := x3
    exact ⟨cell, y1, y2, y3, y4, y5, fun j hj => by show cell.slots[j]? = some (Value.ref (f j)); rw [fa j hj]; exact y6 j hj, y7⟩
  · show va_O _ (f (310 + i)) _ _ _ ∧ va_OF _ _ _ _ (f (310 + i)) _ _ _ ∧ va_OF _ _ _ (.ref (f (320 + i))) (f (310 + i)) _ _ _ ∧ va_T _ (f (320 + i)) _ _ _ _ _
    rw [fk i hi, fv i hi]
    exact hK.1 i hi
  · refine hK.2 i j hi hj ?_
    rw [← fk i hi, ← fk j hj]
    exact he
/-- from the entry, for every script of at most 3072 ints, the law comes to its end with true -/
theorem whole_start {p : Program} {e : Env} {s : State} {m : MethodId} {below : List Frame} {meth : Method} {c : Code} (l : Launch) (hflags : l.flags = flags0) {b L : Nat} {xs : Nat → Int32} (hL : L ≤ 3072) (C0 : lw_At p s m meth c b L xs) : W p l e room_1 s m #[Value.ref b] below meth c s.heap [] 0 0 (lw_Z below #[Value.ref b] s) (entryFrame m ([Value.ref b] : List Value).toArray 4) := by
  obtain ⟨hx, hb, hr, hml, hown, hts, hX, hbl, hlocks, hgv⟩ := id C0
  obtain ⟨w, w1, w4, hKX⟩ := k_start hts hgv
  have hg : ∀ x ∈ gW, x.before #[Value.ref b] s = true := fun x hx => hts x (List.mem_filter.mp hx).1
  have hl := lv_entry ([.ref b]) (n := 4) (Nat.le_of_ble_eq_true rfl)
  rw [lg_entry_eq]
  generalize (lg_sl ([.ref b]) ++ List.replicate (4 - (lg_sl ([.ref b])).length) Slot.unset).toArray = ls at hl ⊢
  have hl : lv_has ls 4 [(0, .ref b)] := hl
  have hl9 : lv_has ls 4 (([(0, .float 400)] : List (Nat × Value)).map fun x => (x.1, em w x.2)) := by
    show lv_has ls 4 [(0, .ref (w.2.1 400))]
    rw [w4]
    exact hl
  exact l_body (sb := b) (sL := L) (sx := xs) hL w s.heap p l e room_1 s m #[Value.ref b] below meth c 606698 7282154 s.heap [] 0 0 ls ⟨w4, hX, by omega, rfl, rfl, w1⟩ ⟨hx, hb, hml, hr, trivial, hown, hg, hlocks, hKX, ⟨Nat.le_of_eq w1, fun _ _ => rfl⟩, by decide, by decide, Nat.le_refl _, Nat.le_refl _⟩ ⟨w1.symm, fun i ci hi => by simp at hi⟩ va_S.rf hl9 (by omega) (by omega)
