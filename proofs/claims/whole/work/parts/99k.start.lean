set_option maxRecDepth 100000 in
theorem nar_0 : ((flatC narrow_1).drop 31).take 113 = (List.range 113).map (fun j => Cond.eq (.elem (.field (.string "LispMachine$Store" 34) "java/lang/String" "value" "[B") (.int (Int32.ofNat j))) (.int ((pw_byt.getD 0 []).getD j 0))) := by decide +kernel
set_option maxRecDepth 100000 in
theorem nar_1 : ((flatC narrow_1).drop 253).take 47 = (List.range 47).map (fun j => Cond.eq (.elem (.field (.string "LispMachine$Teller" 92) "java/lang/String" "value" "[B") (.int (Int32.ofNat j))) (.int ((pw_byt.getD 1 []).getD j 0))) := by decide +kernel
set_option maxRecDepth 100000 in
theorem nar_B : ((flatC narrow_1).drop 10).take 17 = (List.range 17).map (fun j => Cond.eq (.elem (.static "LispMachine" "BASE_TAKES" "[I") (.int (Int32.ofNat j))) (.int (iZ (pw_bt j)))) := by decide +kernel
theorem nar_mem {n m j : Nat} {F : Nat → Cond} (h : ((flatC narrow_1).drop n).take m = (List.range m).map F) (hj : j < m) : F j ∈ flatC narrow_1 := by
  have h1 : F j ∈ ((flatC narrow_1).drop n).take m := by rw [h]; exact List.mem_map.mpr ⟨j, List.mem_range.mpr hj, rfl⟩
  exact List.mem_of_mem_drop (List.mem_of_mem_take h1)
def lw_tm (i : Nat) : Term := if i = 0 then (.string "LispMachine$Store" 34) else (.string "LispMachine$Teller" 92)
set_option maxRecDepth 100000 in
set_option maxHeartbeats 4000000 in
/-- at the law's entry: the classes, the arrays, the constants -/
theorem law_C {p : Program} {s : State} {m : MethodId} {meth : Method} {c : Code} {b L : Nat} {xs : Nat → Int32} (C0 : lw_At p s m meth c b L xs) : ∃ g : pw_P, pw_B g = s.heap.size ∧ pw_C g p s m #[Value.ref b] meth c cL_law 4 RL := by
  obtain ⟨hx, hb, hr, hml, hown, hts, hX, hbl, hlocks, hgv⟩ := id C0
  have hsF := flat_of_before _ hgv
  have hsN : ∀ {w : Cond}, w ∈ flatC narrow_1 → w.before #[Value.ref b] s = true := fun {w} h => hsF w (List.mem_append_right (flatC given_1) h)
  have htT : ∀ w ∈ pw_T, w.before #[Value.ref b] s = true := fun w hw => hts w (List.mem_filter.mp hw).1
  obtain ⟨c0, i0, hk0⟩ := u_known (C := RX0) (T := TX0) (N := 7) (n := 7) htT cl_X0.2.1 (htT _ in_X0)
  obtain ⟨c1, i1, hk1⟩ := u_known (C := RX1) (T := TX1) (N := 6) (n := 6) htT cl_X1.2.1 (htT _ in_X1)
  obtain ⟨c2, i2, hk2⟩ := u_known (C := RX2) (T := TX2) (N := 4) (n := 4) htT cl_X2.2.1 (htT _ in_X2)
  obtain ⟨c3, i3, hk3⟩ := u_known (C := RX3) (T := TX3) (N := 12) (n := 12) htT cl_X3.2.1 (htT _ in_X3)
  obtain ⟨c4, i4, hk4⟩ := u_known (C := RX4) (T := TX4) (N := 2) (n := 2) htT cl_X4.2.1 (htT _ in_X4)
  obtain ⟨c5, i5, hk5⟩ := u_known (C := RX5) (T := TX5) (N := 14) (n := 14) htT cl_X5.2.1 (htT _ in_X5)
  obtain ⟨c6, i6, hk6⟩ := u_known (C := RX6) (T := TX6) (N := 6) (n := 6) htT cl_X6.2.1 (htT _ in_X6)
  obtain ⟨c7, i7, hk7⟩ := u_known (C := RX7) (T := TX7) (N := 5) (n := 5) htT cl_X7.2.1 (htT _ in_X7)
  obtain ⟨c8, i8, hk8⟩ := u_known (C := RX8) (T := TX8) (N := 4) (n := 4) htT cl_X8.2.1 (htT _ in_X8)
  obtain ⟨c9, i9, hk9⟩ := u_known (C := RX9) (T := TX9) (N := 7) (n := 7) htT cl_X9.2.1 (htT _ in_X9)
  obtain ⟨c10, i10, hk10⟩ := u_known (C := RX10) (T := TX10) (N := 70) (n := 70) htT cl_X10.2.1 (htT _ in_X10)
  obtain ⟨dC, dI, hKc⟩ : ∃ (dC : Nat → ClassId) (dI : Nat → Nat → Nat), ∀ (k : Nat) (q : vw_C), vwCl[k]? = some q → u_Kn s q.1 q.2.1 q.2.2 (dC k) (dI k) := by
    refine ⟨fun k => if k = 0 then c0 else if k = 1 then c1 else if k = 2 then c2 else if k = 3 then c3 else if k = 4 then c4 else if k = 5 then c5 else if k = 6 then c6 else if k = 7 then c7 else if k = 8 then c8 else if k = 9 then c9 else c10, fun k => if k = 0 then i0 else if k = 1 then i1 else if k = 2 then i2 else if k = 3 then i3 else if k = 4 then i4 else if k = 5 then i5 else if k = 6 then i6 else if k = 7 then i7 else if k = 8 then i8 else if k = 9 then i9 else i10, ?_⟩
    intro k q hq
    match k, hq with
    | 0, hq => cases hq; exact hk0
    | 1, hq => cases hq; exact hk1
    | 2, hq => cases hq; exact hk2
    | 3, hq => cases hq; exact hk3
    | 4, hq => cases hq; exact hk4
    | 5, hq => cases hq; exact hk5
    | 6, hq => cases hq; exact hk6
    | 7, hq => cases hq; exact hk7
    | 8, hq => cases hq; exact hk8
    | 9, hq => cases hq; exact hk9
    | 10, hq => cases hq; exact hk10
    | k + 11, hq => simp [vwCl] at hq
  obtain ⟨y0, ky0, py0, ya0, yb0, yc0⟩ := Cond.arrayClass_spec (args := #[Value.ref b]) (first := s) (o := none) (s := s) (idx := []) (htT _ ar_int)
  obtain ⟨y1, ky1, py1, ya1, yb1, yc1⟩ := Cond.arrayClass_spec (args := #[Value.ref b]) (first := s) (o := none) (s := s) (idx := []) (htT _ ar_long)
  obtain ⟨y2, ky2, py2, ya2, yb2, yc2⟩ := Cond.arrayClass_spec (args := #[Value.ref b]) (first := s) (o := none) (s := s) (idx := []) (htT _ ar_char)
  obtain ⟨y3, ky3, py3, ya3, yb3, yc3⟩ := Cond.arrayClass_spec (args := #[Value.ref b]) (first := s) (o := none) (s := s) (idx := []) (htT _ ar_boolean)
  obtain ⟨py4, y4, ky4, yp4, -, yb4, yc4, ya4⟩ := Cond.arrayOver_spec (args := #[Value.ref b]) (first := s) (o := none) (s := s) (idx := []) (n := "LispMachine$Definition") (hts _ (pt_2 (List.mem_of_getElem? (i := 22) (by rfl))))
  obtain ⟨py5, y5, ky5, yp5, -, yb5, yc5, ya5⟩ := Cond.arrayOver_spec (args := #[Value.ref b]) (first := s) (o := none) (s := s) (idx := []) (n := "LispMachine$Call") (hts _ (pt_2 (List.mem_of_getElem? (i := 39) (by rfl))))
  obtain ⟨ka, hKa⟩ : ∃ ka : Nat → ClassId, ∀ (k : Nat) (q : ClassId × FieldType), (pw_tys ka)[k]? = some q → ArrOfT s q.1 q.2 ∧ va_RA s q.1 q.2 := by
    refine ⟨fun k => if k = 0 then y0 else if k = 1 then y1 else if k = 2 then y2 else if k = 3 then y3 else if k = 4 then y4 else y5, ?_⟩
    intro k q hq
    match k, hq with
    | 0, hq => cases hq; exact ⟨fun n z => ⟨fun k h => (by cases h), ky0, yb0, py0, yc0⟩, ya0⟩
    | 1, hq => cases hq; exact ⟨fun n z => ⟨fun k h => (by cases h), ky1, yb1, py1, yc1⟩, ya1⟩
    | 2, hq => cases hq; exact ⟨fun n z => ⟨fun k h => (by cases h), ky2, yb2, py2, yc2⟩, ya2⟩
    | 3, hq => cases hq; exact ⟨fun n z => ⟨fun k h => (by cases h), ky3, yb3, py3, yc3⟩, ya3⟩
    | 4, hq => cases hq; exact ⟨fun n z => ⟨fun k h => (by cases h), ky4, yb4, py4, yc4⟩, ⟨ky4, py4, yb4, yc4, yp4, ya4⟩⟩
    | 5, hq => cases hq; exact ⟨fun n z => ⟨fun k h => (by cases h), ky5, yb5, py5, yc5⟩, ⟨ky5, py5, yb5, yc5, yp5, ya5⟩⟩
    | k + 6, hq => simp [pw_tys] at hq
  have hA : ∀ a : Nat, a < s.heap.size → ¬ (fun q : Nat => s.heap.size ≤ q) a := fun a ha h => absurd ha (Nat.not_lt.mpr h)
  obtain ⟨adK, adV, hSK, hev⟩ := vk_Sof (args := #[Value.ref b]) (s := s) (N := 2) (tm := lw_tm) (len := pw_len) (byt := pw_byt) (A := fun q : Nat => s.heap.size ≤ q)
    (fun i hi => by
    have h2 : i = 0 ∨ i = 1 := by omega
    rcases h2 with rfl | rfl
    · exact by decide
    · exact by decide)
    (fun i hi => by
    have h2 : i = 0 ∨ i = 1 := by omega
    rcases h2 with rfl | rfl
    · exact (hsN (List.mem_of_getElem? (i := 27) (show (flatC narrow_1)[27]? = some (Cond.exactly (.string "LispMachine$Store" 34) "java/lang/String") by decide +kernel)))
    · exact (hsN (List.mem_of_getElem? (i := 249) (show (flatC narrow_1)[249]? = some (Cond.exactly (.string "LispMachine$Teller" 92) "java/lang/String") by decide +kernel))))
    (fun i hi => by
    have h2 : i = 0 ∨ i = 1 := by omega
    rcases h2 with rfl | rfl
    · exact (hsN (List.mem_of_getElem? (i := 28) (show (flatC narrow_1)[28]? = some (Cond.eq (.field (.string "LispMachine$Store" 34) "java/lang/String" "coder" "B") (.int 0)) by decide +kernel)))
    · exact (hsN (List.mem_of_getElem? (i := 250) (show (flatC narrow_1)[250]? = some (Cond.eq (.field (.string "LispMachine$Teller" 92) "java/lang/String" "coder" "B") (.int 0)) by decide +kernel))))
    (fun i hi => by
    have h2 : i = 0 ∨ i = 1 := by omega
    rcases h2 with rfl | rfl
    · exact (hsN (List.mem_of_getElem? (i := 29) (show (flatC narrow_1)[29]? = some (Cond.arrayOf (.field (.string "LispMachine$Store" 34) "java/lang/String" "value" "[B") .byte) by decide +kernel)))
    · exact (hsN (List.mem_of_getElem? (i := 251) (show (flatC narrow_1)[251]? = some (Cond.arrayOf (.field (.string "LispMachine$Teller" 92) "java/lang/String" "value" "[B") .byte) by decide +kernel))))
    (fun i hi => by
    have h2 : i = 0 ∨ i = 1 := by omega
    rcases h2 with rfl | rfl
    · exact (hsN (List.mem_of_getElem? (i := 30) (show (flatC narrow_1)[30]? = some (Cond.eq (.length (.field (.string "LispMachine$Store" 34) "java/lang/String" "value" "[B")) (.int (Int32.ofNat 113))) by decide +kernel)))
    · exact (hsN (List.mem_of_getElem? (i := 252) (show (flatC narrow_1)[252]? = some (Cond.eq (.length (.field (.string "LispMachine$Teller" 92) "java/lang/String" "value" "[B")) (.int (Int32.ofNat 47))) by decide +kernel))))
    (fun i hi => by
    have h2 : i = 0 ∨ i = 1 := by omega
    rcases h2 with rfl | rfl
    · exact (fun j hj => hsN (nar_mem nar_0 hj))
    · exact (fun j hj => hsN (nar_mem nar_1 hj)))
    (fun i j hi hj hij => by
      have h2 : (i = 0 ∧ j = 1) ∨ (i = 1 ∧ j = 0) := by omega
      rcases h2 with ⟨rfl, rfl⟩ | ⟨rfl, rfl⟩
      · exact Or.inl (hsN (List.mem_of_getElem? (i := 300) (show (flatC narrow_1)[300]? = some (Cond.not (Cond.eq (.string "LispMachine$Store" 34) (.string "LispMachine$Teller" 92))) by decide +kernel)))
      · exact Or.inr (hsN (List.mem_of_getElem? (i := 300) (show (flatC narrow_1)[300]? = some (Cond.not (Cond.eq (.string "LispMachine$Store" 34) (.string "LispMachine$Teller" 92))) by decide +kernel)))) hA
  have e0 := hev 0 (by decide)
  have e1 := hev 1 (by decide)
  have e2 : (Term.string "LispMachine$Store" 42).eval #[Value.ref b] s none [] s = some (.ref (adK 1)) := Cond.eq_refs (args := #[Value.ref b]) (first := s) (out := none) (t := s) (idx := []) (hsN (List.mem_of_getElem? (i := 301) (show (flatC narrow_1)[301]? = some (Cond.eq (.string "LispMachine$Store" 42) (.string "LispMachine$Teller" 92)) by decide +kernel))) e1 rfl
  have e3 : (Term.string "LispMachine$Reader" 76).eval #[Value.ref b] s none [] s = some (.ref (adK 1)) := Cond.eq_refs (args := #[Value.ref b]) (first := s) (out := none) (t := s) (idx := []) (hsN (List.mem_of_getElem? (i := 302) (show (flatC narrow_1)[302]? = some (Cond.eq (.string "LispMachine$Reader" 76) (.string "LispMachine$Teller" 92)) by decide +kernel))) e1 rfl
  obtain ⟨t4, ht4, hT4⟩ := va_Tof (args := #[Value.ref b]) (s := s) (tm := .static "LispMachine" "BASE_TAKES" "[I") (ty := .int) (N := 17) (f := fun j => .int (iZ (pw_bt j))) (A := fun q : Nat => s.heap.size ≤ q) (by decide) (hsN (List.mem_of_getElem? (i := 8) (show (flatC narrow_1)[8]? = some (Cond.arrayOf (.static "LispMachine" "BASE_TAKES" "[I") .int) by decide +kernel))) (va_eqt (hsN (List.mem_of_getElem? (i := 9) (show (flatC narrow_1)[9]? = some (Cond.eq (.length (.static "LispMachine" "BASE_TAKES" "[I")) (.int (Int32.ofNat 17))) by decide +kernel)))) (fun j hj => va_eqt (hsN (nar_mem nar_B hj))) hA
  obtain ⟨ad, d0, d1, d2, d3, d4⟩ : ∃ ad : Nat → Nat, ad 0 = adK 0 ∧ ad 1 = adK 1 ∧ ad 2 = adV 0 ∧ ad 3 = adV 1 ∧ ad 4 = t4 := ⟨fun i => if i = 0 then adK 0 else if i = 1 then adK 1 else if i = 2 then adV 0 else if i = 3 then adV 1 else t4, rfl, rfl, rfl, rfl, rfl⟩
  refine ⟨((dC, dI), ka, s.heap.size, ad), rfl, hx, hb, hml, hown, htT, hlocks, Nat.le_refl _, ⟨hKc, hKa⟩, ?_⟩
  refine ⟨fun w hw => ?_, ⟨fun i hi => ?_, fun i j hi hj hij => ?_⟩, ⟨?_, ?_, ?_, ?_⟩, ?_, ?_, ?_, ?_, ?_, ?_⟩
  · have hn := (List.mem_filter.mp hw).2
    have hb1 := hts w (List.mem_filter.mp hw).1
    cases w <;> first | exact va_Nw.of rfl hb1 | exact Bool.noConfusion hn
  · have h2 : i = 0 ∨ i = 1 := by omega
    rcases h2 with rfl | rfl
    · have h3 := hSK.1 0 (by decide)
      rw [← d0, ← d2] at h3
      exact h3
    · have h3 := hSK.1 1 (by decide)
      rw [← d1, ← d3] at h3
      exact h3
  · have h2 : i = 0 ∨ i = 1 := by omega
    have h3 : j = 0 ∨ j = 1 := by omega
    rcases h2 with rfl | rfl <;> rcases h3 with rfl | rfl
    · rfl
    · exact hSK.2 0 1 (by decide) (by decide) (d0.symm.trans (hij.trans d1))
    · exact hSK.2 1 0 (by decide) (by decide) (d1.symm.trans (hij.trans d0))
    · rfl
  · show vk_R "LispMachine$Store" 34 pw_t0 (ad 0) s
    rw [d0]; exact vk_R.of (A := #[Value.ref b]) (hts _ (pt_1 (List.mem_of_getElem? (i := 37) (by rfl)))) e0
  · show vk_R "LispMachine$Store" 42 pw_t1 (ad 1) s
    rw [d1]; exact vk_R.of (A := #[Value.ref b]) (hts _ (pt_1 (List.mem_of_getElem? (i := 48) (by rfl)))) e2
  · show vk_R "LispMachine$Reader" 76 pw_t1 (ad 1) s
    rw [d1]; exact vk_R.of (A := #[Value.ref b]) (hts _ (pt_2 (List.mem_of_getElem? (i := 233) (by rfl)))) e3
  · show vk_R "LispMachine$Teller" 92 pw_t1 (ad 1) s
    rw [d1]; exact vk_R.of (A := #[Value.ref b]) (hts _ (pt_4 (List.mem_of_getElem? (i := 156) (by rfl)))) e1
  · exact va_Zof (args := #[Value.ref b]) (hts _ (pt_1 (List.mem_of_getElem? (i := 47) (by rfl)))) (hts _ (pt_1 (List.mem_of_getElem? (i := 4) (by rfl)))) (va_eqt (hsN (List.mem_of_getElem? (i := 2) (show (flatC narrow_1)[2]? = some (Cond.eq (.static "java/lang/String" "COMPACT_STRINGS" "Z") (.int 1)) by decide +kernel)))) hA
  · show va_Z "LispMachine" "BASE_TAKES" "[I" (.ref (ad 4)) _ s s.heap
    rw [d4]; exact va_Zref (args := #[Value.ref b]) (hts _ (pt_3 (List.mem_of_getElem? (i := 108) (by rfl)))) (hts _ (pt_1 (List.mem_of_getElem? (i := 1) (by rfl)))) ht4 hA
  · show va_T .int (ad 4) 17 _ _ s s.heap
    rw [d4]; exact hT4
  · exact va_AO.of (A := #[Value.ref b]) (hts _ (pt_2 (List.mem_of_getElem? (i := 22) (by rfl))))
  · exact va_AO.of (A := #[Value.ref b]) (hts _ (pt_2 (List.mem_of_getElem? (i := 39) (by rfl))))
  · exact va_Zqof (args := #[Value.ref b]) (hts _ (pt_1 (List.mem_of_getElem? (i := 64) (by rfl)))) (hts _ (pt_1 (List.mem_of_getElem? (i := 6) (by rfl)))) (hsN (List.mem_of_getElem? (i := 3) (show (flatC narrow_1)[3]? = some (Cond.isRef (.static "jdk/internal/util/Preconditions" "SIOOBE_FORMATTER" "Ljava/util/function/BiFunction;")) by decide +kernel))) hA
set_option maxRecDepth 100000 in
set_option maxHeartbeats 4000000 in
/-- THE LAW, from its entry -/
theorem whole_start {p : Program} {e : Env} {s : State} {m : MethodId} {below : List Frame} {meth : Method} {c : Code} (l : Launch) {b L : Nat} {xs : Nat → Int32} (hL : L ≤ 3072) (C0 : lw_At p s m meth c b L xs) : W p l e room_1 s m #[Value.ref b] below meth c s.heap [] 0 0 (lw_Z below #[Value.ref b] s) (entryFrame m ([Value.ref b] : List Value).toArray 4) := by
  obtain ⟨g, hB, C⟩ := law_C C0
  obtain ⟨hx, hb, hr, hml, hown, hts, hX, hbl, hlocks, hgv⟩ := id C0
  have h0 : pw_G g p l e room_1 s m #[Value.ref b] below meth c 4 (lw_Z below #[Value.ref b] s) 0 0 0 [(0, .ref b)] [] (fun _ => (0, none)) := by
    refine pw_new 0 (fs := [.null, .null, .null, .null, .null, .null, .null]) C cl_X9 kl_L_7 in_X9 ii_X9 (nw_fs rfl) (Nat.le_of_ble_eq_true rfl) (Nat.le_of_ble_eq_true rfl) dL_law_0 (fun a w1 hk1 ho1 => ?_)
    refine pw_dup C dL_law_3 rfl ?_
    refine pw_callI (As := []) (st := [.ref a]) C (m_X9_init2 g l hk1 (fun k hk => by rw [ho1 k (by omega)])) my_X9_init ml_L_9 rfl ⟨Nat.le_of_ble_eq_true rfl, Nat.le_of_ble_eq_true rfl⟩ ⟨Nat.le_of_ble_eq_true rfl, Nat.le_of_ble_eq_true rfl⟩ rfl (Nat.le_of_ble_eq_true rfl) dL_law_4 ?_
    rintro _ w2 ⟨rfl, he2, hL2, hf2⟩
    refine pw_stk (st' := [.ref a]) rfl ?_
    refine pw_astore_n (i := 1) (lv' := [(0, .ref b), (1, .ref a)]) C dL_law_7 rfl (by decide) (Or.inr ⟨_, rfl⟩) rfl ?_
    refine pw_new 1000 (fs := [.null, .null, .null, .null, .null, .null, .null, .int (iZ 0), .null, .null, .int (iZ 0), .null, .null, .int (iZ 0), .null, .int (iZ 0), .null, .int (iZ 0), .null, .int (iZ 0), .int (iZ 0), .int (iZ 0), .int (iZ 0), .null, .null, .null, .null, .int (iZ 0), .null, .int (iZ 0), .int (iZ 0), .int (iZ 0), .int (iZ 0), .null, .null, .null, .null, .int (iZ 0), .int (iZ 0), .int (iZ 0), .int (iZ 0), .int (iZ 0), .null, .null, .null, .int (iZ 0), .null, .int (iZ 0), .null, .int (iZ 0), .null, .int (iZ 0), .null, .null, .int (iZ 0), .null, .null, .null, .null, .null, .null, .int (iZ 0), .null, .int (iZ 0), .int (iZ 0), .int (iZ 0), .int (iZ 0), .int (iZ 0), .null, .int (iZ 0)]) C cl_X10 kl_L_10 in_X10 ii_X10 (nw_fs rfl) (Nat.le_of_ble_eq_true rfl) (Nat.le_of_ble_eq_true rfl) dL_law_8 (fun bm w3 hk3 ho3 => ?_)
    refine pw_dup C dL_law_11 rfl ?_
    refine pw_callI (As := []) (st := [.ref bm]) C (m_X10_init g l hk3) my_X10_init ml_L_12 rfl ⟨Nat.le_of_ble_eq_true rfl, Nat.le_of_ble_eq_true rfl⟩ ⟨Nat.le_of_ble_eq_true rfl, Nat.le_of_ble_eq_true rfl⟩ rfl (Nat.le_of_ble_eq_true rfl) dL_law_12 ?_
    rintro _ w4 ⟨rfl, ⟨B, s4, hs4, hM4⟩, hf4⟩
    refine pw_stk (st' := [.ref bm]) rfl ?_
    refine pw_astore_n (i := 2) (lv' := [(0, .ref b), (1, .ref a), (2, .ref bm)]) C dL_law_15 rfl (by decide) (Or.inr ⟨_, rfl⟩) rfl ?_
    refine pw_iconst C dL_law_16 ?_
    refine pw_istore_n (i := 3) (lv' := [(0, .ref b), (1, .ref a), (2, .ref bm), (3, .int (iZ 0))]) C dL_law_17 rfl (by decide) rfl ?_
    subst he2
    have hL4 := hL2.same (fun k hk => (hf4 k hk).trans (ho3 k (by omega)))
    have hI : LwI g w4 (fun k => (w2 k).1) bm B 0 2048 := ⟨fun _ => 0, fun _ => 0, fun _ => 0, 0, 0, -1, 1000, 0, 0, [], [], 0, 24, 24, s4, 0, hL4, hM4, (fun i i0 i1 => (wbA_zero (fun _ _ _ => rfl) i i0 i1).symm), (fun d hd => absurd hd List.not_mem_nil), Or.inl rfl, by decide, by decide, by omega, by have h9 := nzC_zero (f := fun _ => (0 : Int)) 20 (fun _ _ _ => rfl); have h8 : nzC (fun _ => (0 : Int)) 0 = 0 := rfl; omega⟩
    refine pw_wide (70 + 604 * 0) (500000 + 3900 * 0 + 8 * 2048) (Nat.le_of_ble_eq_true rfl) (Nat.le_of_ble_eq_true rfl) ?_
    exact law_loop C hr hX hbl hB hL 513 0 2048 w4 rfl (Nat.zero_le _) hI
  have hl := lv_entry [Value.ref b] (n := 4) (Nat.le_of_ble_eq_true rfl)
  rw [lg_entry_eq]
  exact h0 _ s.heap [] hl ⟨fun k a e h => (by cases h), fun j k a e e' h => (by cases h)⟩ va_S.rf
