/-- a definition in the class: name, takes, parameters, body -/
abbrev Df : Type := Int × Int × Int × Int
abbrev dfO (d : Df) : va_E := OB 2 [.int (iZ d.1), .int (iZ d.2.1), .int (iZ d.2.2.1), .int (iZ d.2.2.2)]
def dfI (d : Df) : Prop := inI d.1 ∧ inI d.2.1 ∧ inI d.2.2.1 ∧ inI d.2.2.2
def DfsI (w : pw_W) (D : Nat → Nat) : Nat → List Df → Prop
  | _, [] => True
  | i, d :: ds => w (100 + i) = (D i, some (dfO d)) ∧ dfI d ∧ DfsI w D (i + 1) ds
/-- the table of functions -/
def FnI (g : pw_P) (w : pw_W) (A D : Nat → Nat) (ds : List Df) : Prop :=
  ∃ F : Nat → Option Nat, w 16 = (A 16, some (OB 4 [.ref (A 17), .int (iZ (ds.length : Int))])) ∧ w 17 = (A 17, some (AR g 4 40 F)) ∧ (∀ i, i < 40 → F i = if i < ds.length then some (D i) else none) ∧ ds.length ≤ 40 ∧ DfsI w D 0 ds
def fIx : List Df → Int → Nat → Option Nat
  | [], _, _ => none
  | d :: ds, x, i => if d.1 = x then some i else fIx ds x (i + 1)
theorem DfsI.same {w w' : pw_W} {D : Nat → Nat} : ∀ {i : Nat} {ds : List Df}, DfsI w D i ds → (∀ k, 100 + i ≤ k → k < 100 + i + ds.length → w' k = w k) → DfsI w' D i ds
  | _, [], _, _ => trivial
  | i, d :: ds, h, hf => ⟨(hf (100 + i) (Nat.le_refl _) (by simp only [List.length_cons]; omega)).trans h.1, h.2.1, DfsI.same h.2.2 (fun k h1 h2 => hf k (by omega) (by simp only [List.length_cons]; omega))⟩
theorem DfsI.get {w : pw_W} {D : Nat → Nat} : ∀ {i : Nat} {ds : List Df} {j : Nat} {d : Df}, DfsI w D i ds → ds[j]? = some d → w (100 + (i + j)) = (D (i + j), some (dfO d)) ∧ dfI d
  | i, d :: ds, 0, d', h, hj => by cases hj; exact ⟨h.1, h.2.1⟩
  | i, d :: ds, j + 1, d', h, hj => by
    have := DfsI.get (j := j) h.2.2 (by simpa using hj)
    rw [show i + (j + 1) = i + 1 + j by omega]
    exact this
theorem DfsI.app {w : pw_W} {D : Nat → Nat} : ∀ {i : Nat} {ds : List Df} {d : Df}, DfsI w D i ds → w (100 + (i + ds.length)) = (D (i + ds.length), some (dfO d)) → dfI d → DfsI w D i (ds ++ [d])
  | i, [], d, _, h, hd => ⟨h, hd, trivial⟩
  | i, d :: ds, d', h, h1, hd => ⟨h.1, h.2.1, DfsI.app h.2.2 (by rw [show i + 1 + ds.length = i + (d :: ds).length by simp only [List.length_cons]; omega]; exact h1) hd⟩
theorem DfsI.pre {w : pw_W} {D : Nat → Nat} : ∀ {i : Nat} {ds : List Df} {d : Df}, DfsI w D i (ds ++ [d]) → DfsI w D i ds
  | _, [], _, _ => trivial
  | _, _ :: _, _, h => ⟨h.1, h.2.1, DfsI.pre h.2.2⟩
theorem DfsI.upD {w : pw_W} {D D' : Nat → Nat} : ∀ {i : Nat} {ds : List Df}, DfsI w D i ds → (∀ k, i ≤ k → k < i + ds.length → D' k = D k) → DfsI w D' i ds
  | _, [], _, _ => trivial
  | i, d :: ds, h, hf => ⟨by rw [hf i (Nat.le_refl _) (by simp only [List.length_cons]; omega)]; exact h.1, h.2.1, DfsI.upD h.2.2 (fun k h1 h2 => hf k (by omega) (by simp only [List.length_cons]; omega))⟩
theorem FnI.same {g : pw_P} {w w' : pw_W} {A D : Nat → Nat} {ds : List Df} (h : FnI g w A D ds) (hf : ∀ k, (k = 16 ∨ k = 17 ∨ (100 ≤ k ∧ k < 140)) → w' k = w k) : FnI g w' A D ds := by
  obtain ⟨F, h1, h2, h3, h4, h5⟩ := h
  exact ⟨F, (hf 16 (by omega)).trans h1, (hf 17 (by omega)).trans h2, h3, h4, h5.same (fun k a b => hf k (by omega))⟩
theorem FnI.upD {g : pw_P} {w : pw_W} {A D : Nat → Nat} {ds : List Df} {v : Nat} (h : FnI g w A D ds) : FnI g w A (va_up D ds.length v) ds := by
  obtain ⟨F, h1, h2, h3, h4, h5⟩ := h
  refine ⟨F, h1, h2, fun i hi => ?_, h4, h5.upD (fun k a b => va_up_ne _ _ (by omega))⟩
  rw [h3 i hi]
  by_cases q : i < ds.length
  · rw [if_pos q, if_pos q, va_up_ne _ _ (by omega)]
  · rw [if_neg q, if_neg q]
theorem FnI.rec {g : pw_P} {p : Program} {s : State} {m : MethodId} {args : Array Value} {meth : Method} {c : Code} {cc : ByteArray} {nL : Nat} {own : String} {w : pw_W} {A D : Nat → Nat} {ds : List Df} (C : pw_C g p s m args meth c cc nL own) (h : FnI g w A D ds) : pw_rec g s w (A 16) RX4 := by
  obtain ⟨F, h1, -⟩ := h
  exact pw_rec.of C h1 cl_X4.1
theorem FnI.len {g : pw_P} {w : pw_W} {A D : Nat → Nat} {ds : List Df} (h : FnI g w A D ds) : ds.length ≤ 40 := by
  obtain ⟨F, -, -, -, h4, -⟩ := h
  exact h4
theorem FnI.get {g : pw_P} {w : pw_W} {A D : Nat → Nat} {ds : List Df} (h : FnI g w A D ds) {j : Nat} {d : Df} (hj : ds[j]? = some d) : w (100 + j) = (D j, some (dfO d)) ∧ dfI d := by
  obtain ⟨F, -, -, -, -, h5⟩ := h
  have := h5.get (j := j) hj
  rw [show 0 + j = j by omega] at this
  exact this
set_option maxRecDepth 100000 in
set_option maxHeartbeats 4000000 in
/-- find -/
theorem m_X4_find (g : pw_P) (l : Launch) {w : pw_W} {A D : Nat → Nat} {ds : List Df} (hF : FnI g w A D ds) {x : Int} (hx : inI x) : pw_M g l yX4_find cX4_find 4 (some (.object "LispMachine$Definition")) { frames := 0, cells := 0, slots := 0, locals := 0 } [.ref (A 16), .int (iZ x)] w (fun r w' => w = w' ∧ r = some (va_rf ((fIx ds x 0).map D))) := by
  refine pw_M.of (by decide) (Nat.le_of_ble_eq_true rfl) rfl ?_
  intro p e s m args below meth c C hr hn
  obtain ⟨F, k1, k2, k3, k4, k5⟩ := id hF
  have loop : ∀ (rs : List Df) (i : Nat), i + rs.length = ds.length → DfsI w D i rs → fIx rs x i = fIx ds x 0 → pw_G g p l e { frames := 0, cells := 0, slots := 0, locals := 0 } s m args below meth c 4 (pw_Q g below (fun r w' => w = w' ∧ r = some (va_rf ((fIx ds x 0).map D))) args s { frames := 0, cells := 0, slots := 0, locals := 0 }) 0 0 2 [(0, .ref (A 16)), (1, .int (iZ x)), (2, .int (iZ ((i : Nat) : Int)))] [] w := by
    intro rs
    induction rs with
    | nil =>
      intro i hl hd hq
      refine pw_iload_n (i := 2) C dX4_find_2 rfl rfl ?_
      refine pw_aload_n (i := 0) C dX4_find_3 rfl rfl (Or.inr ⟨_, rfl⟩) ?_
      refine pw_get (j := 1) C cl_X4 fl_X4_17 (by decide) rfl k1 rfl dX4_find_4 ?_
      refine pw_icmp_ge (tgt := 43) C (by omega) (by omega) dX4_find_7 (by decide) (fun h_1 => ?_) (fun h_1 => ?_)
      · refine pw_null C dX4_find_43 ?_
        exact pw_aret C hr (Or.inl ⟨_, rfl⟩) (Or.inl rfl) dX4_find_44 ⟨rfl, by rw [← hq]; rfl⟩
      · exfalso; simp only [List.length_nil] at hl; omega
    | cons d rs ih =>
      intro i hl hd hq
      have hi : i < ds.length := by simp only [List.length_cons] at hl; omega
      have hFi : F i = some (D i) := by rw [k3 i (by omega), if_pos hi]
      have hdi := hd.2.1.1
      refine pw_iload_n (i := 2) C dX4_find_2 rfl rfl ?_
      refine pw_aload_n (i := 0) C dX4_find_3 rfl rfl (Or.inr ⟨_, rfl⟩) ?_
      refine pw_get (j := 1) C cl_X4 fl_X4_17 (by decide) rfl k1 rfl dX4_find_4 ?_
      refine pw_icmp_ge (tgt := 43) C (by omega) (by omega) dX4_find_7 (by decide) (fun h_51 => ?_) (fun h_51 => ?_)
      · exfalso; simp only [List.length_cons] at hl; omega
      · refine pw_iload_n (i := 2) C dX4_find_10 rfl rfl ?_
        refine pw_bipush C dX4_find_11 (by decide) ?_
        refine pw_icmp_ge (tgt := 43) C (by omega) (by omega) dX4_find_13 (by decide) (fun h_52 => ?_) (fun h_52 => ?_)
        · exfalso; simp only [List.length_cons] at hl; omega
        · refine pw_aload_n (i := 0) C dX4_find_16 rfl rfl (Or.inr ⟨_, rfl⟩) ?_
          refine pw_get (j := 0) C cl_X4 fl_X4_11 (by decide) rfl k1 rfl dX4_find_17 ?_
          refine pw_iload_n (i := 2) C dX4_find_20 rfl rfl ?_
          refine pw_aald C k2 rfl ⟨by omega, by omega, by omega⟩ dX4_find_21 ?_
          rw [show F (((i : Nat) : Int)).toNat = some (D i) from hFi]
          refine pw_stk (st' := [.ref (D i)]) rfl ?_
          refine pw_astore_n (i := 3) (lv' := [(0, .ref (A 16)), (1, .int (iZ x)), (2, .int (iZ ((i : Nat) : Int))), (3, .ref (D i))]) C dX4_find_22 rfl (by decide) (Or.inr ⟨_, rfl⟩) rfl ?_
          refine pw_aload_n (i := 3) C dX4_find_23 rfl rfl (Or.inr ⟨_, rfl⟩) ?_
          refine pw_ifnullR C dX4_find_24 ?_
          refine pw_aload_n (i := 3) C dX4_find_27 rfl rfl (Or.inr ⟨_, rfl⟩) ?_
          refine pw_getN (j := 0) C cl_X2 fn_X4_21 (by decide) rfl hd.1 rfl dX4_find_28 ?_
          refine pw_iload_n (i := 1) C dX4_find_31 rfl rfl ?_
          refine pw_icmp_ne (tgt := 37) C (by omega) (by omega) dX4_find_32 (by decide) (fun h_54 => ?_) (fun h_54 => ?_)
          · refine pw_iinc (lv' := [(0, .ref (A 16)), (1, .int (iZ x)), (2, .int (iZ (((i : Nat) : Int) + 1))), (3, .ref (D i))]) C dX4_find_37 rfl (by decide) rfl ?_
            refine pw_goto (tgt := 2) C dX4_find_40 (by decide) ?_
            refine pw_sub [0, 1, 2] rfl ?_
            exact ih (i + 1) (by simp only [List.length_cons] at hl; omega) hd.2.2 (by rw [← hq, fIx, if_neg (by omega)])
          · refine pw_aload_n (i := 3) C dX4_find_35 rfl rfl (Or.inr ⟨_, rfl⟩) ?_
            exact pw_aret C hr (Or.inl ⟨_, rfl⟩) (Or.inr ⟨_, rfl⟩) dX4_find_36 ⟨rfl, by rw [← hq, fIx, if_pos (by omega)]; rfl⟩
  refine pw_iconst C dX4_find_0 ?_
  refine pw_istore_n (i := 2) (lv' := [(0, .ref (A 16)), (1, .int (iZ x)), (2, .int (iZ 0))]) C dX4_find_1 rfl (by decide) rfl ?_
  exact loop ds 0 (by simp) k5 rfl

set_option maxRecDepth 100000 in
set_option maxHeartbeats 4000000 in
/-- at -/
theorem m_X4_at (g : pw_P) (l : Launch) {w : pw_W} {A D : Nat → Nat} {ds : List Df} (hF : FnI g w A D ds) {x : Int} (hx : inI x) : pw_M g l yX4_at cX4_at 2 (some (.object "LispMachine$Definition")) { frames := 0, cells := 0, slots := 0, locals := 0 } [.ref (A 16), .int (iZ x)] w (fun r w' => w = w' ∧ r = some (va_rf (if 0 ≤ x ∧ x < (ds.length : Int) then some (D x.toNat) else none))) := by
  refine pw_M.of (by decide) (Nat.le_of_ble_eq_true rfl) rfl ?_
  intro p e s m args below meth c C hr hn
  obtain ⟨F, k1, k2, k3, k4, k5⟩ := id hF
  refine pw_iload_n (i := 1) C dX4_at_0 rfl rfl ?_
  refine pw_if_lt (tgt := 27) C (by omega) dX4_at_1 (by decide) (fun h_1 => ?_) (fun h_1 => ?_)
  · refine pw_null C dX4_at_27 ?_
    exact pw_aret C hr (Or.inl ⟨_, rfl⟩) (Or.inl rfl) dX4_at_28 ⟨rfl, by rw [if_neg (by omega)]; rfl⟩
  · refine pw_iload_n (i := 1) C dX4_at_4 rfl rfl ?_
    refine pw_aload_n (i := 0) C dX4_at_5 rfl rfl (Or.inr ⟨_, rfl⟩) ?_
    refine pw_get (j := 1) C cl_X4 fl_X4_17 (by decide) rfl k1 rfl dX4_at_6 ?_
    refine pw_icmp_ge (tgt := 27) C (by omega) (by omega) dX4_at_9 (by decide) (fun h_2 => ?_) (fun h_2 => ?_)
    · refine pw_null C dX4_at_27 ?_
      exact pw_aret C hr (Or.inl ⟨_, rfl⟩) (Or.inl rfl) dX4_at_28 ⟨rfl, by rw [if_neg (by omega)]; rfl⟩
    · refine pw_iload_n (i := 1) C dX4_at_12 rfl rfl ?_
      refine pw_bipush C dX4_at_13 (by decide) ?_
      refine pw_icmp_ge (tgt := 27) C (by omega) (by omega) dX4_at_15 (by decide) (fun h_3 => ?_) (fun h_3 => ?_)
      · refine pw_null C dX4_at_27 ?_
        exact pw_aret C hr (Or.inl ⟨_, rfl⟩) (Or.inl rfl) dX4_at_28 ⟨rfl, by rw [if_neg (by omega)]; rfl⟩
      · refine pw_aload_n (i := 0) C dX4_at_18 rfl rfl (Or.inr ⟨_, rfl⟩) ?_
        refine pw_get (j := 0) C cl_X4 fl_X4_11 (by decide) rfl k1 rfl dX4_at_19 ?_
        refine pw_iload_n (i := 1) C dX4_at_22 rfl rfl ?_
        refine pw_aald C k2 rfl ⟨by omega, by omega, by omega⟩ dX4_at_23 ?_
        rw [show F x.toNat = some (D x.toNat) from by rw [k3 _ (by omega), if_pos (by omega)]]
        refine pw_stk (st' := [.ref (D x.toNat)]) rfl ?_
        refine pw_goto (tgt := 28) C dX4_at_24 (by decide) ?_
        exact pw_aret C hr (Or.inl ⟨_, rfl⟩) (Or.inr ⟨_, rfl⟩) dX4_at_28 ⟨rfl, by rw [if_pos (by omega)]; rfl⟩

set_option maxRecDepth 100000 in
set_option maxHeartbeats 4000000 in
/-- isFull -/
theorem fn_isFull (g : pw_P) (l : Launch) {w : pw_W} {A D : Nat → Nat} {ds : List Df} (hF : FnI g w A D ds) : pw_M g l yX4_isFull cX4_isFull 1 (some .boolean) { frames := 0, cells := 0, slots := 0, locals := 0 } [.ref (A 16)] w (fun r w' => w = w' ∧ r = some (.int (iZ (b2i (decide (40 ≤ ds.length)))))) := by
  refine pw_M.of (by decide) (Nat.le_of_ble_eq_true rfl) rfl ?_
  intro p e s m args below meth c C hr hn
  obtain ⟨F, k1, k2, k3, k4, k5⟩ := id hF
  refine pw_aload_n (i := 0) C dX4_isFull_0 rfl rfl (Or.inr ⟨_, rfl⟩) ?_
  refine pw_get (j := 1) C cl_X4 fl_X4_17 (by decide) rfl k1 rfl dX4_isFull_1 ?_
  refine pw_bipush C dX4_isFull_4 (by decide) ?_
  refine pw_icmp_lt (tgt := 13) C (by omega) (by omega) dX4_isFull_6 (by decide) (fun h_1 => ?_) (fun h_1 => ?_)
  · refine pw_iconst C dX4_isFull_13 ?_
    exact pw_zret C hr (by decide +kernel) dX4_isFull_14 ⟨rfl, by rw [show decide (40 ≤ ds.length) = false by simp; omega]; rfl⟩
  · refine pw_iconst C dX4_isFull_9 ?_
    refine pw_goto (tgt := 14) C dX4_isFull_10 (by decide) ?_
    exact pw_zret C hr (by decide +kernel) dX4_isFull_14 ⟨rfl, by rw [show decide (40 ≤ ds.length) = true by simp; omega]; rfl⟩

set_option maxRecDepth 100000 in
set_option maxHeartbeats 4000000 in
/-- add -/
theorem m_X4_add (g : pw_P) (l : Launch) {w : pw_W} {A D : Nat → Nat} {ds : List Df} (hF : FnI g w A D ds) {d : Df} {v : Nat} (hv : w (100 + ds.length) = (v, some (dfO d))) (hD : D ds.length = v) (hl : ds.length < 40) (hdI : dfI d) : pw_M g l yX4_add cX4_add 2 none { frames := 1, cells := 0, slots := 0, locals := 20 } [.ref (A 16), .ref v] w (fun r w' => r = none ∧ FnI g w' A D (ds ++ [d]) ∧ ∀ k, (k < 16 ∨ 17 < k) → w' k = w k) := by
  refine pw_M.of (by decide) (Nat.le_of_ble_eq_true rfl) rfl ?_
  intro p e s m args below meth c C hr hn
  obtain ⟨F, k1, k2, k3, k4, k5⟩ := id hF
  refine pw_aload_n (i := 0) C dX4_add_0 rfl rfl (Or.inr ⟨_, rfl⟩) ?_
  refine pw_callV (As := []) (st := []) C (fn_isFull g l hF) my_X4_isFull ml_X4_24 (hF.rec C) rfl ⟨Nat.le_of_ble_eq_true rfl, Nat.le_of_ble_eq_true rfl⟩ ⟨Nat.le_of_ble_eq_true rfl, Nat.le_of_ble_eq_true rfl⟩ rfl (Nat.le_of_ble_eq_true rfl) dX4_add_1 ?_
  rintro _ _ ⟨rfl, rfl⟩
  refine pw_stk (st' := [.int (iZ (b2i (decide (40 ≤ ds.length))))]) rfl ?_
  refine pw_if_neB (tgt := 27) C dX4_add_4 (by decide) (fun h_1 => ?_) (fun h_1 => ?_)
  · exfalso; simp at h_1; omega
  · refine pw_aload_n (i := 0) C dX4_add_7 rfl rfl (Or.inr ⟨_, rfl⟩) ?_
    refine pw_get (j := 0) C cl_X4 fl_X4_11 (by decide) rfl k1 rfl dX4_add_8 ?_
    refine pw_aload_n (i := 0) C dX4_add_11 rfl rfl (Or.inr ⟨_, rfl⟩) ?_
    refine pw_get (j := 1) C cl_X4 fl_X4_17 (by decide) rfl k1 rfl dX4_add_12 ?_
    refine pw_aload_n (i := 1) C dX4_add_15 rfl rfl (Or.inr ⟨_, rfl⟩) ?_
    refine pw_aast C k2 rfl hv cl_X2.1 ⟨by omega, by omega, by omega⟩ dX4_add_16 (fun w_2 k_3 o_4 => ?_)
    refine pw_aload_n (i := 0) C dX4_add_17 rfl rfl (Or.inr ⟨_, rfl⟩) ?_
    refine pw_dup C dX4_add_18 rfl ?_
    have c_5 := (o_4 16 (by decide)).trans k1
    refine pw_get (j := 1) C cl_X4 fl_X4_17 (by decide) rfl c_5 rfl dX4_add_19 ?_
    refine pw_iconst C dX4_add_22 ?_
    refine pw_iadd C dX4_add_23 ?_
    refine pw_put (j := 1) C cl_X4 fl_X4_17 (by decide) rfl rfl rfl rfl rfl c_5 (Nat.le_of_ble_eq_true rfl) dX4_add_24 (fun w_8 k_6 o_7 => ?_)
    have k_9 : w_8 16 = ((A 16), some (OB 4 [.ref (A 17), .int (iZ (((ds.length : Int)) + 1))])) := k_6
    have c_10 := (o_7 17 (by decide)).trans k_3
    refine pw_vret C hr dX4_add_27 ⟨rfl, ⟨_, by rw [k_9]; simp, c_10, fun i hi => ?_, by simp; omega, (k5.app (d := d) (by rw [Nat.zero_add, hD]; exact hv) hdI).same (fun k h1 h2 => (o_7 k (by omega)).trans (o_4 k (by omega)))⟩, fun k hk => (o_7 k (by omega)).trans (o_4 k (by omega))⟩
    rw [show ((ds.length : Int)).toNat = ds.length by omega, List.length_append, List.length_singleton]
    by_cases q : i = ds.length
    · rw [q, va_up_self, if_pos (by omega), hD]
    · rw [va_up_ne _ _ q, k3 i hi]
      by_cases q2 : i < ds.length
      · rw [if_pos q2, if_pos (by omega)]
      · rw [if_neg q2, if_neg (by omega)]

set_option maxRecDepth 100000 in
set_option maxHeartbeats 4000000 in
/-- removeLast -/
theorem m_X4_removeLast (g : pw_P) (l : Launch) {w : pw_W} {A D : Nat → Nat} {ds : List Df} {d : Df} (hF : FnI g w A D (ds ++ [d])) : pw_M g l yX4_removeLast cX4_removeLast 1 none { frames := 0, cells := 0, slots := 0, locals := 0 } [.ref (A 16)] w (fun r w' => r = none ∧ FnI g w' A D ds ∧ ∀ k, (k < 16 ∨ 17 < k) → w' k = w k) := by
  refine pw_M.of (by decide) (Nat.le_of_ble_eq_true rfl) rfl ?_
  intro p e s m args below meth c C hr hn
  obtain ⟨F, k1, k2, k3, k4, k5⟩ := id hF
  have hl1 : (((ds ++ [d]).length : Nat) : Int) = ds.length + 1 := by simp
  refine pw_aload_n (i := 0) C dX4_removeLast_0 rfl rfl (Or.inr ⟨_, rfl⟩) ?_
  refine pw_get (j := 1) C cl_X4 fl_X4_17 (by decide) rfl k1 rfl dX4_removeLast_1 ?_
  refine pw_if_le (tgt := 27) C (by omega) dX4_removeLast_4 (by decide) (fun h_1 => ?_) (fun h_1 => ?_)
  · exfalso; omega
  · refine pw_aload_n (i := 0) C dX4_removeLast_7 rfl rfl (Or.inr ⟨_, rfl⟩) ?_
    refine pw_dup C dX4_removeLast_8 rfl ?_
    refine pw_get (j := 1) C cl_X4 fl_X4_17 (by decide) rfl k1 rfl dX4_removeLast_9 ?_
    refine pw_iconst C dX4_removeLast_12 ?_
    refine pw_isub C dX4_removeLast_13 ?_
    refine pw_put (j := 1) C cl_X4 fl_X4_17 (by decide) rfl rfl rfl rfl rfl k1 (Nat.le_of_ble_eq_true rfl) dX4_removeLast_14 (fun w_4 k_2 o_3 => ?_)
    have k_5 : w_4 16 = ((A 16), some (OB 4 [.ref (A 17), .int (iZ ((((ds ++ [d]).length : Nat) : Int) - 1))])) := k_2
    refine pw_aload_n (i := 0) C dX4_removeLast_17 rfl rfl (Or.inr ⟨_, rfl⟩) ?_
    refine pw_get (j := 0) C cl_X4 fl_X4_11 (by decide) rfl k_5 rfl dX4_removeLast_18 ?_
    refine pw_aload_n (i := 0) C dX4_removeLast_21 rfl rfl (Or.inr ⟨_, rfl⟩) ?_
    refine pw_get (j := 1) C cl_X4 fl_X4_17 (by decide) rfl k_5 rfl dX4_removeLast_22 ?_
    refine pw_null C dX4_removeLast_25 ?_
    have c_6 := (o_3 17 (by decide)).trans k2
    refine pw_aastN C c_6 rfl ⟨by omega, by omega, by omega⟩ dX4_removeLast_26 (fun w_7 k_8 o_9 => ?_)
    have c_10 := (o_9 16 (by decide)).trans k_5
    refine pw_vret C hr dX4_removeLast_27 ⟨rfl, ⟨_, by rw [c_10]; simp, k_8, fun i hi => ?_, by simp at k4; omega, k5.pre.same (fun k h1 h2 => (o_9 k (by omega)).trans (o_3 k (by omega)))⟩, fun k hk => (o_9 k (by omega)).trans (o_3 k (by omega))⟩
    rw [show ((((ds ++ [d]).length : Nat) : Int) - 1).toNat = ds.length by simp]
    by_cases q : i = ds.length
    · rw [q, va_up_self, if_neg (by omega)]
    · rw [va_up_ne _ _ q, k3 i hi, List.length_append, List.length_singleton]
      by_cases q2 : i < ds.length
      · rw [if_pos q2, if_pos (by omega)]
      · rw [if_neg q2, if_neg (by omega)]

set_option maxRecDepth 100000 in
set_option maxHeartbeats 4000000 in
/-- Definition -/
theorem m_X2_init (g : pw_P) (l : Launch) {w : pw_W} {k a : Nat} {x1 x2 x3 x4 : Int} (hk : w k = (a, some (OB 2 [.int (iZ 0), .int (iZ 0), .int (iZ 0), .int (iZ 0)]))) : pw_M g l yX2_init cX2_init 5 none { frames := 1, cells := 0, slots := 0, locals := 20 } [.ref a, .int (iZ x1), .int (iZ x2), .int (iZ x3), .int (iZ x4)] w (fun r w' => r = none ∧ w' k = (a, some (dfO (x1, x2, x3, x4))) ∧ ∀ j, j ≠ k → w' j = w j) := by
  refine pw_M.of (by decide) (Nat.le_of_ble_eq_true rfl) rfl ?_
  intro p e s m args below meth c C hr hn
  refine pw_aload_n (i := 0) C dX2_init_0 rfl rfl (Or.inr ⟨_, rfl⟩) ?_
  refine pw_obj (st := []) C ml_X2_1 ob_i ob_c (Nat.le_of_ble_eq_true rfl) (Nat.le_of_ble_eq_true rfl) dX2_init_1 ?_
  refine pw_aload_n (i := 0) C dX2_init_4 rfl rfl (Or.inr ⟨_, rfl⟩) ?_
  refine pw_iload_n (i := 1) C dX2_init_5 rfl rfl ?_
  refine pw_putF (j := 0) C hn cl_X2 fl_X2_7 (by decide) rfl rfl rfl rfl rfl rfl hk (Nat.le_of_ble_eq_true rfl) dX2_init_6 (fun w_3 k_1 o_2 => ?_)
  have k_4 : w_3 k = (a, some (OB 2 [.int (iZ x1), .int (iZ 0), .int (iZ 0), .int (iZ 0)])) := k_1
  refine pw_aload_n (i := 0) C dX2_init_9 rfl rfl (Or.inr ⟨_, rfl⟩) ?_
  refine pw_iload_n (i := 2) C dX2_init_10 rfl rfl ?_
  refine pw_putF (j := 1) C hn cl_X2 fl_X2_13 (by decide) rfl rfl rfl rfl rfl rfl k_4 (Nat.le_of_ble_eq_true rfl) dX2_init_11 (fun w_7 k_5 o_6 => ?_)
  have k_8 : w_7 k = (a, some (OB 2 [.int (iZ x1), .int (iZ x2), .int (iZ 0), .int (iZ 0)])) := k_5
  refine pw_aload_n (i := 0) C dX2_init_14 rfl rfl (Or.inr ⟨_, rfl⟩) ?_
  refine pw_iload_n (i := 3) C dX2_init_15 rfl rfl ?_
  refine pw_put (j := 2) C cl_X2 fl_X2_16 (by decide) rfl rfl rfl rfl rfl k_8 (Nat.le_of_ble_eq_true rfl) dX2_init_16 (fun w_11 k_9 o_10 => ?_)
  have k_12 : w_11 k = (a, some (OB 2 [.int (iZ x1), .int (iZ x2), .int (iZ x3), .int (iZ 0)])) := k_9
  refine pw_aload_n (i := 0) C dX2_init_19 rfl rfl (Or.inr ⟨_, rfl⟩) ?_
  refine pw_iload C dX2_init_20 rfl ?_
  refine pw_put (j := 3) C cl_X2 fl_X2_19 (by decide) rfl rfl rfl rfl rfl k_12 (Nat.le_of_ble_eq_true rfl) dX2_init_22 (fun w_15 k_13 o_14 => ?_)
  have k_16 : w_15 k = (a, some (OB 2 [.int (iZ x1), .int (iZ x2), .int (iZ x3), .int (iZ x4)])) := k_13
  exact pw_vret C hr dX2_init_25 ⟨rfl, k_16, fun j hj => (o_14 j hj).trans ((o_10 j hj).trans ((o_6 j hj).trans (o_2 j hj)))⟩

/-- a call in the class -/
abbrev clE (b : Nat) (vc nm : Int) (od : Option Nat) (rr : Int) (os : Option Nat) (en : Bool) : va_E := OB 0 [.ref b, .int (iZ vc), .int (iZ nm), va_rf od, .int (iZ rr), va_rf os, .int (iZ (b2i en))]
set_option maxRecDepth 100000 in
set_option maxHeartbeats 4000000 in
/-- start -/
theorem m_X0_start (g : pw_P) (l : Launch) {w : pw_W} {k a b : Nat} {vc nm rr x tm : Int} {od os oe of : Option Nat} {en : Bool} (hk : w k = (a, some (clE b vc nm oe rr of en))) : pw_M g l yX0_start cX0_start 5 none { frames := 0, cells := 0, slots := 0, locals := 0 } [.ref a, .int (iZ x), va_rf od, .int (iZ tm), va_rf os] w (fun r w' => r = none ∧ w' k = (a, some (clE b 0 x od tm os false)) ∧ ∀ j, j ≠ k → w' j = w j) := by
  refine pw_M.of (lv := [(0, .ref a), (1, .int (iZ x)), (2, va_rf od), (3, .int (iZ tm)), (4, va_rf os)]) (by decide) (by simp [lg_sl, cat_i, cat_r, cat_n, cat_l, va_rf_cat]) (by simp [lv_args, cat_i, cat_r, cat_n, cat_l, va_rf_cat]) ?_
  intro p e s m args below meth c C hr hn
  refine pw_aload_n (i := 0) C dX0_start_0 rfl rfl (Or.inr ⟨_, rfl⟩) ?_
  refine pw_iload_n (i := 1) C dX0_start_1 rfl rfl ?_
  refine pw_put (j := 2) C cl_X0 fl_X0_15 (by decide) rfl rfl rfl rfl rfl hk (Nat.le_of_ble_eq_true rfl) dX0_start_2 (fun w_3 k_1 o_2 => ?_)
  have k_4 : w_3 k = (a, some (OB 0 [.ref b, .int (iZ vc), .int (iZ x), va_rf oe, .int (iZ rr), va_rf of, .int (iZ (b2i en))])) := k_1
  refine pw_aload_n (i := 0) C dX0_start_5 rfl rfl (Or.inr ⟨_, rfl⟩) ?_
  refine pw_aload_n (i := 2) C dX0_start_6 rfl rfl (va_rf_or _) ?_
  refine pw_put (j := 3) C cl_X0 fl_X0_19 (by decide) rfl rfl rfl rfl (va_rf_fit _) k_4 (Nat.le_of_ble_eq_true rfl) dX0_start_7 (fun w_7 k_5 o_6 => ?_)
  have k_8 : w_7 k = (a, some (OB 0 [.ref b, .int (iZ vc), .int (iZ x), va_rf od, .int (iZ rr), va_rf of, .int (iZ (b2i en))])) := k_5
  refine pw_aload_n (i := 0) C dX0_start_10 rfl rfl (Or.inr ⟨_, rfl⟩) ?_
  refine pw_iload_n (i := 3) C dX0_start_11 rfl rfl ?_
  refine pw_put (j := 4) C cl_X0 fl_X0_23 (by decide) rfl rfl rfl rfl rfl k_8 (Nat.le_of_ble_eq_true rfl) dX0_start_12 (fun w_11 k_9 o_10 => ?_)
  have k_12 : w_11 k = (a, some (OB 0 [.ref b, .int (iZ vc), .int (iZ x), va_rf od, .int (iZ tm), va_rf of, .int (iZ (b2i en))])) := k_9
  refine pw_aload_n (i := 0) C dX0_start_15 rfl rfl (Or.inr ⟨_, rfl⟩) ?_
  refine pw_aload C dX0_start_16 rfl (va_rf_or _) ?_
  refine pw_put (j := 5) C cl_X0 fl_X0_26 (by decide) rfl rfl rfl rfl (va_rf_fit _) k_12 (Nat.le_of_ble_eq_true rfl) dX0_start_18 (fun w_15 k_13 o_14 => ?_)
  have k_16 : w_15 k = (a, some (OB 0 [.ref b, .int (iZ vc), .int (iZ x), va_rf od, .int (iZ tm), va_rf os, .int (iZ (b2i en))])) := k_13
  refine pw_aload_n (i := 0) C dX0_start_21 rfl rfl (Or.inr ⟨_, rfl⟩) ?_
  refine pw_iconst C dX0_start_22 ?_
  refine pw_put (j := 1) C cl_X0 fl_X0_30 (by decide) rfl rfl rfl rfl rfl k_16 (Nat.le_of_ble_eq_true rfl) dX0_start_23 (fun w_19 k_17 o_18 => ?_)
  have k_20 : w_19 k = (a, some (OB 0 [.ref b, .int (iZ 0), .int (iZ x), va_rf od, .int (iZ tm), va_rf os, .int (iZ (b2i en))])) := k_17
  refine pw_aload_n (i := 0) C dX0_start_26 rfl rfl (Or.inr ⟨_, rfl⟩) ?_
  refine pw_iconst C dX0_start_27 ?_
  refine pw_put (j := 6) C cl_X0 fl_X0_33 (by decide) rfl rfl rfl (by decide +kernel) (by decide +kernel) k_20 (Nat.le_of_ble_eq_true rfl) dX0_start_28 (fun w_23 k_21 o_22 => ?_)
  have k_24 : w_23 k = (a, some (OB 0 [.ref b, .int (iZ 0), .int (iZ x), va_rf od, .int (iZ tm), va_rf os, .int (iZ 0)])) := k_21
  exact pw_vret C hr dX0_start_31 ⟨rfl, k_24, fun j hj => (o_22 j hj).trans ((o_18 j hj).trans ((o_14 j hj).trans ((o_10 j hj).trans ((o_6 j hj).trans (o_2 j hj)))))⟩

set_option maxRecDepth 100000 in
set_option maxHeartbeats 4000000 in
/-- add -/
theorem m_X0_add (g : pw_P) (l : Launch) {w : pw_W} {k k2 a b : Nat} {vc nm rr x : Int} {od os : Option Nat} {en : Bool} {f : Int → Int} (hk : w k = (a, some (clE b vc nm od rr os en))) (hk2 : w k2 = (b, some (AI g 6 f))) (hne : k ≠ k2) (hvc : 0 ≤ vc ∧ vc < 6) : pw_M g l yX0_add cX0_add 2 none { frames := 0, cells := 0, slots := 0, locals := 0 } [.ref a, .int (iZ x)] w (fun r w' => r = none ∧ w' k = (a, some (clE b (vc + 1) nm od rr os en)) ∧ w' k2 = (b, some (AI g 6 (upz f vc x))) ∧ ∀ j, j ≠ k → j ≠ k2 → w' j = w j) := by
  refine pw_M.of (by decide) (Nat.le_of_ble_eq_true rfl) rfl ?_
  intro p e s m args below meth c C hr hn
  refine pw_aload_n (i := 0) C dX0_add_0 rfl rfl (Or.inr ⟨_, rfl⟩) ?_
  refine pw_get (j := 1) C cl_X0 fl_X0_30 (by decide) rfl hk rfl dX0_add_1 ?_
  refine pw_bipush C dX0_add_4 (by decide) ?_
  refine pw_icmp_ge (tgt := 29) C (by omega) (by omega) dX0_add_6 (by decide) (fun h_1 => ?_) (fun h_1 => ?_)
  · exfalso; omega
  · refine pw_aload_n (i := 0) C dX0_add_9 rfl rfl (Or.inr ⟨_, rfl⟩) ?_
    refine pw_get (j := 0) C cl_X0 fl_X0_9 (by decide) rfl hk rfl dX0_add_10 ?_
    refine pw_aload_n (i := 0) C dX0_add_13 rfl rfl (Or.inr ⟨_, rfl⟩) ?_
    refine pw_get (j := 1) C cl_X0 fl_X0_30 (by decide) rfl hk rfl dX0_add_14 ?_
    refine pw_iload_n (i := 1) C dX0_add_17 rfl rfl ?_
    refine pw_iast C hk2 ⟨by omega, by omega, by omega⟩ dX0_add_18 (fun w_4 k_2 o_3 => ?_)
    refine pw_aload_n (i := 0) C dX0_add_19 rfl rfl (Or.inr ⟨_, rfl⟩) ?_
    refine pw_dup C dX0_add_20 rfl ?_
    have c_5 := (o_3 k (by omega)).trans hk
    refine pw_get (j := 1) C cl_X0 fl_X0_30 (by decide) rfl c_5 rfl dX0_add_21 ?_
    refine pw_iconst C dX0_add_24 ?_
    refine pw_iadd C dX0_add_25 ?_
    refine pw_put (j := 1) C cl_X0 fl_X0_30 (by decide) rfl rfl rfl rfl rfl c_5 (Nat.le_of_ble_eq_true rfl) dX0_add_26 (fun w_8 k_6 o_7 => ?_)
    have k_9 : w_8 k = (a, some (OB 0 [.ref b, .int (iZ (vc + 1)), .int (iZ nm), va_rf od, .int (iZ rr), va_rf os, .int (iZ (b2i en))])) := k_6
    have c_10 := (o_7 k2 (by omega)).trans k_2
    exact pw_vret C hr dX0_add_29 ⟨rfl, k_9, c_10, fun j hj hj2 => (o_7 j (by assumption)).trans (o_3 j (by assumption))⟩

set_option maxRecDepth 100000 in
set_option maxHeartbeats 4000000 in
/-- Call -/
theorem m_X0_init (g : pw_P) (l : Launch) {w : pw_W} {k k2 a : Nat} (hk : w k = (a, some (OB 0 [.null, .int (iZ 0), .int (iZ 0), .null, .int (iZ 0), .null, .int (iZ 0)]))) (hne : k ≠ k2) : pw_M g l yX0_init cX0_init 1 none { frames := 1, cells := 1, slots := 6, locals := 20 } [.ref a] w (fun r w' => r = none ∧ ∃ b, w' k = (a, some (clE b 0 0 none 0 none false)) ∧ w' k2 = (b, some (AI g 6 (fun _ => 0))) ∧ ∀ j, j ≠ k → j ≠ k2 → w' j = w j) := by
  refine pw_M.of (by decide) (Nat.le_of_ble_eq_true rfl) rfl ?_
  intro p e s m args below meth c C hr hn
  refine pw_aload_n (i := 0) C dX0_init_0 rfl rfl (Or.inr ⟨_, rfl⟩) ?_
  refine pw_obj (st := []) C ml_X0_3 ob_i ob_c (Nat.le_of_ble_eq_true rfl) (Nat.le_of_ble_eq_true rfl) dX0_init_1 ?_
  refine pw_aload_n (i := 0) C dX0_init_4 rfl rfl (Or.inr ⟨_, rfl⟩) ?_
  refine pw_bipush C dX0_init_5 (by decide) ?_
  refine pw_newA k2 0 (atype := .int) (N := 6) C ar_int rfl (new_AI g 6) rfl (by decide) (by decide) (Nat.le_of_ble_eq_true rfl) (Nat.le_of_ble_eq_true rfl) dX0_init_7 (fun a_1 w_2 k_3 o_4 => ?_)
  have c_5 := (o_4 k (by omega)).trans hk
  refine pw_putF (j := 0) C hn cl_X0 fl_X0_9 (by decide) rfl rfl rfl rfl rfl rfl c_5 (Nat.le_of_ble_eq_true rfl) dX0_init_9 (fun w_8 k_6 o_7 => ?_)
  have k_9 : w_8 k = (a, some (OB 0 [.ref a_1, .int (iZ 0), .int (iZ 0), .null, .int (iZ 0), .null, .int (iZ 0)])) := k_6
  have c_10 := (o_7 k2 (by omega)).trans k_3
  exact pw_vret C hr dX0_init_12 ⟨rfl, a_1, k_9, c_10, fun j hj hj2 => (o_7 j (by assumption)).trans (o_4 j (by assumption))⟩

