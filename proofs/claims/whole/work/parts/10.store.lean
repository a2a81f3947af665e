theorem cmpZ_lt1 {a b : Int} (h : cmpZ a b < 0) : a < b := (cmpZ_lt a b).mp h
theorem cmpZ_ge1 {a b : Int} (h : 0 ≤ cmpZ a b) : b ≤ a := Int.not_lt.mp (fun q => Int.not_lt.mpr h ((cmpZ_lt a b).mpr q))
theorem cmpZ_le1 {a b : Int} (h : cmpZ a b ≤ 0) : a ≤ b := (cmpZ_le a b).mp h
theorem cmpZ_gt1 {a b : Int} (h : 0 < cmpZ a b) : b < a := Int.not_le.mp (fun q => Int.not_le.mpr h ((cmpZ_le a b).mpr q))
theorem cmpZ_eq1 {a b : Int} (h : cmpZ a b = 0) : a = b := (cmpZ_eq a b).mp h
theorem cmpZ_ne1 {a b : Int} (h : cmpZ a b ≠ 0) : a ≠ b := fun q => h ((cmpZ_eq a b).mpr q)
/-! THE STORE: its cells at the places 2 to 7; σ 0 left, 1 right, 2 height, 3 next, 4 buckets; n its count -/
def St (g : pw_P) (w : pw_W) (cap : Nat) (σ : Nat → Int → Int) (n : Int) : Prop :=
  w 2 = ((w 2).1, some (OB 6 [.ref (w 3).1, .ref (w 4).1, .ref (w 5).1, .ref (w 6).1, .ref (w 7).1, .int (iZ n)])) ∧ w 3 = ((w 3).1, some (AJ g cap (σ 0))) ∧ w 4 = ((w 4).1, some (AI g cap (σ 1))) ∧ w 5 = ((w 5).1, some (AI g cap (σ 2))) ∧ w 6 = ((w 6).1, some (AI g cap (σ 3))) ∧ w 7 = ((w 7).1, some (AI g 1024 (σ 4))) ∧ (0 ≤ n ∧ n ≤ cap ∧ cap ≤ 16384) ∧ (∀ j, inL (σ 0 j)) ∧ ∀ k j, k ≠ 0 → inI (σ k j)
theorem St.rL {g : pw_P} {w : pw_W} {cap : Nat} {σ : Nat → Int → Int} {n : Int} (h : St g w cap σ n) : ∀ j, inL (σ 0 j) := h.2.2.2.2.2.2.2.1
theorem St.rI {g : pw_P} {w : pw_W} {cap : Nat} {σ : Nat → Int → Int} {n : Int} (h : St g w cap σ n) (k : Nat) (hk : k ≠ 0) : ∀ j, inI (σ k j) := fun j => h.2.2.2.2.2.2.2.2 k j hk
theorem St.rN {g : pw_P} {w : pw_W} {cap : Nat} {σ : Nat → Int → Int} {n : Int} (h : St g w cap σ n) : 0 ≤ n ∧ n ≤ cap ∧ cap ≤ 16384 := h.2.2.2.2.2.2.1

/-- what a number is in the store -/
def sK (σ : Nat → Int → Int) (n o : Int) (P : Int → Bool) : Bool := decide (0 ≤ o) && (decide (o < n) && P (σ 1 o))
theorem sK_t {σ : Nat → Int → Int} {n o : Int} {P : Int → Bool} (h0 : 0 ≤ o) (h1 : o < n) (h2 : P (σ 1 o) = true) : sK σ n o P = true := by simp [sK, h0, h1, h2]
theorem sK_0 {σ : Nat → Int → Int} {n o : Int} {P : Int → Bool} (h : o < 0) : sK σ n o P = false := by simp [sK]; omega
theorem sK_n {σ : Nat → Int → Int} {n o : Int} {P : Int → Bool} (h : n ≤ o) : sK σ n o P = false := by simp [sK]; omega
theorem sK_p {σ : Nat → Int → Int} {n o : Int} {P : Int → Bool} (h : P (σ 1 o) = false) : sK σ n o P = false := by simp [sK, h]
def kP (z : Int) : Bool := decide (0 ≤ z)
def kN (z : Int) : Bool := decide (z = -1)
def kS (z : Int) : Bool := decide (z = -2)
def sP (σ : Nat → Int → Int) (n o : Int) : Bool := sK σ n o kP
def sN (σ : Nat → Int → Int) (n o : Int) : Bool := sK σ n o kN
def sS (σ : Nat → Int → Int) (n o : Int) : Bool := sK σ n o kS
def sV (σ : Nat → Int → Int) (n o : Int) : Bool := sS σ n o && (decide (o ≠ 0) && decide (o ≠ 1))
def sHd (σ : Nat → Int → Int) (n o : Int) : Int := if sP σ n o then σ 0 o else 0
def sTl (σ : Nat → Int → Int) (n o : Int) : Int := if sP σ n o then σ 1 o else 0
def sHt (σ : Nat → Int → Int) (n o : Int) : Int := if 0 ≤ o ∧ o < n then σ 2 o else 0
def sAm (σ : Nat → Int → Int) (n o : Int) : Int := if sN σ n o then σ 0 o else 0
def sSp (σ : Nat → Int → Int) (n o : Int) : Int := if sS σ n o then σ 0 o else 0
def sQ (σ : Nat → Int → Int) (n o : Int) : Bool := decide (sHd σ n o = 2) && (sP σ n (sTl σ n o) && decide (sTl σ n (sTl σ n o) = 0))
theorem sP_in {σ : Nat → Int → Int} {n o : Int} (h : sP σ n o = true) : 0 ≤ o ∧ o < n ∧ 0 ≤ σ 1 o := by simpa [sP, sK, kP] using h
theorem sN_in {σ : Nat → Int → Int} {n o : Int} (h : sN σ n o = true) : 0 ≤ o ∧ o < n ∧ σ 1 o = -1 := by simpa [sN, sK, kN] using h
theorem sS_in {σ : Nat → Int → Int} {n o : Int} (h : sS σ n o = true) : 0 ≤ o ∧ o < n ∧ σ 1 o = -2 := by simpa [sS, sK, kS] using h
/-- a pair's head is an int: what hold keeps -/
def sHI (σ : Nat → Int → Int) (n : Int) : Prop := ∀ j, 0 ≤ j → j < n → 0 ≤ σ 1 j → inI (σ 0 j)
theorem sTl_in {g : pw_P} {w : pw_W} {cap : Nat} {σ : Nat → Int → Int} {n : Int} (h : St g w cap σ n) (o : Int) : inI (sTl σ n o) := by
  unfold sTl
  split
  · exact h.rI 1 (by decide) o
  · exact ⟨by decide, by decide⟩
theorem sHd_in {g : pw_P} {w : pw_W} {cap : Nat} {σ : Nat → Int → Int} {n : Int} (h : St g w cap σ n) (hh : sHI σ n) (o : Int) : inI (sHd σ n o) := by
  unfold sHd
  split
  · rename_i hp
    exact hh o (sP_in hp).1 (sP_in hp).2.1 (sP_in hp).2.2
  · exact ⟨by decide, by decide⟩

set_option maxRecDepth 100000 in
set_option maxHeartbeats 4000000 in
/-- isPair -/
theorem m_X6_isPair (g : pw_P) (l : Launch) {w : pw_W} {cap : Nat} {σ : Nat → Int → Int} {n : Int} (hS : St g w cap σ n) {o : Int} (ho : inI o) : pw_M g l yX6_isPair cX6_isPair 2 (some .boolean) { frames := 0, cells := 0, slots := 0, locals := 0 } [.ref (w 2).1, .int (iZ o)] w (fun r w' => w = w' ∧ r = some (.int (iZ (b2i (sP σ n o))))) := by
  refine pw_M.of (by decide) (Nat.le_of_ble_eq_true rfl) rfl ?_
  intro p e s m args below meth c C hr hn
  have hN := hS.rN
  refine pw_iload_n (i := 1) C dX6_isPair_0 rfl rfl ?_
  refine pw_if_lt (tgt := 25) C (by omega) dX6_isPair_1 (by decide) (fun h_1 => ?_) (fun h_1 => ?_)
  · refine pw_iconst C dX6_isPair_25 ?_
    exact pw_zret C hr (by decide +kernel) dX6_isPair_26 ⟨rfl, by rw [show sP σ n o = false from by first | exact sK_0 (by omega) | exact sK_n (by omega) | exact sK_p (decide_eq_false (by omega))]; rfl⟩
  · refine pw_iload_n (i := 1) C dX6_isPair_4 rfl rfl ?_
    refine pw_aload_n (i := 0) C dX6_isPair_5 rfl rfl (Or.inr ⟨_, rfl⟩) ?_
    refine pw_get (j := 5) C cl_X6 fl_X6_67 (by decide) rfl hS.1 rfl dX6_isPair_6 ?_
    refine pw_icmp_ge (tgt := 25) C (by omega) (by omega) dX6_isPair_9 (by decide) (fun h_2 => ?_) (fun h_2 => ?_)
    · refine pw_iconst C dX6_isPair_25 ?_
      exact pw_zret C hr (by decide +kernel) dX6_isPair_26 ⟨rfl, by rw [show sP σ n o = false from by first | exact sK_0 (by omega) | exact sK_n (by omega) | exact sK_p (decide_eq_false (by omega))]; rfl⟩
    · refine pw_aload_n (i := 0) C dX6_isPair_12 rfl rfl (Or.inr ⟨_, rfl⟩) ?_
      refine pw_get (j := 1) C cl_X6 fl_X6_15 (by decide) rfl hS.1 rfl dX6_isPair_13 ?_
      refine pw_iload_n (i := 1) C dX6_isPair_16 rfl rfl ?_
      have g_3 := (hS.rI 1 (by decide)) o
      refine pw_iald C hS.2.2.1 ⟨by omega, by omega, by omega⟩ dX6_isPair_17 ?_
      refine pw_if_lt (tgt := 25) C (by omega) dX6_isPair_18 (by decide) (fun h_4 => ?_) (fun h_4 => ?_)
      · refine pw_iconst C dX6_isPair_25 ?_
        exact pw_zret C hr (by decide +kernel) dX6_isPair_26 ⟨rfl, by rw [show sP σ n o = false from by first | exact sK_0 (by omega) | exact sK_n (by omega) | exact sK_p (decide_eq_false (by omega))]; rfl⟩
      · refine pw_iconst C dX6_isPair_21 ?_
        refine pw_goto (tgt := 26) C dX6_isPair_22 (by decide) ?_
        exact pw_zret C hr (by decide +kernel) dX6_isPair_26 ⟨rfl, by rw [show sP σ n o = true from sK_t (by omega) (by omega) (decide_eq_true (by omega))]; rfl⟩

set_option maxRecDepth 100000 in
set_option maxHeartbeats 4000000 in
/-- isNatural -/
theorem m_X6_isNatural (g : pw_P) (l : Launch) {w : pw_W} {cap : Nat} {σ : Nat → Int → Int} {n : Int} (hS : St g w cap σ n) {o : Int} (ho : inI o) : pw_M g l yX6_isNatural cX6_isNatural 2 (some .boolean) { frames := 0, cells := 0, slots := 0, locals := 0 } [.ref (w 2).1, .int (iZ o)] w (fun r w' => w = w' ∧ r = some (.int (iZ (b2i (sN σ n o))))) := by
  refine pw_M.of (by decide) (Nat.le_of_ble_eq_true rfl) rfl ?_
  intro p e s m args below meth c C hr hn
  have hN := hS.rN
  refine pw_iload_n (i := 1) C dX6_isNatural_0 rfl rfl ?_
  refine pw_if_lt (tgt := 26) C (by omega) dX6_isNatural_1 (by decide) (fun h_1 => ?_) (fun h_1 => ?_)
  · refine pw_iconst C dX6_isNatural_26 ?_
    exact pw_zret C hr (by decide +kernel) dX6_isNatural_27 ⟨rfl, by rw [show sN σ n o = false from by first | exact sK_0 (by omega) | exact sK_n (by omega) | exact sK_p (decide_eq_false (by omega))]; rfl⟩
  · refine pw_iload_n (i := 1) C dX6_isNatural_4 rfl rfl ?_
    refine pw_aload_n (i := 0) C dX6_isNatural_5 rfl rfl (Or.inr ⟨_, rfl⟩) ?_
    refine pw_get (j := 5) C cl_X6 fl_X6_67 (by decide) rfl hS.1 rfl dX6_isNatural_6 ?_
    refine pw_icmp_ge (tgt := 26) C (by omega) (by omega) dX6_isNatural_9 (by decide) (fun h_2 => ?_) (fun h_2 => ?_)
    · refine pw_iconst C dX6_isNatural_26 ?_
      exact pw_zret C hr (by decide +kernel) dX6_isNatural_27 ⟨rfl, by rw [show sN σ n o = false from by first | exact sK_0 (by omega) | exact sK_n (by omega) | exact sK_p (decide_eq_false (by omega))]; rfl⟩
    · refine pw_aload_n (i := 0) C dX6_isNatural_12 rfl rfl (Or.inr ⟨_, rfl⟩) ?_
      refine pw_get (j := 1) C cl_X6 fl_X6_15 (by decide) rfl hS.1 rfl dX6_isNatural_13 ?_
      refine pw_iload_n (i := 1) C dX6_isNatural_16 rfl rfl ?_
      have g_3 := (hS.rI 1 (by decide)) o
      refine pw_iald C hS.2.2.1 ⟨by omega, by omega, by omega⟩ dX6_isNatural_17 ?_
      refine pw_iconst C dX6_isNatural_18 ?_
      refine pw_icmp_ne (tgt := 26) C (by omega) (by omega) dX6_isNatural_19 (by decide) (fun h_4 => ?_) (fun h_4 => ?_)
      · refine pw_iconst C dX6_isNatural_26 ?_
        exact pw_zret C hr (by decide +kernel) dX6_isNatural_27 ⟨rfl, by rw [show sN σ n o = false from by first | exact sK_0 (by omega) | exact sK_n (by omega) | exact sK_p (decide_eq_false (by omega))]; rfl⟩
      · refine pw_iconst C dX6_isNatural_22 ?_
        refine pw_goto (tgt := 27) C dX6_isNatural_23 (by decide) ?_
        exact pw_zret C hr (by decide +kernel) dX6_isNatural_27 ⟨rfl, by rw [show sN σ n o = true from sK_t (by omega) (by omega) (decide_eq_true (by omega))]; rfl⟩

set_option maxRecDepth 100000 in
set_option maxHeartbeats 4000000 in
/-- isSymbol -/
theorem m_X6_isSymbol (g : pw_P) (l : Launch) {w : pw_W} {cap : Nat} {σ : Nat → Int → Int} {n : Int} (hS : St g w cap σ n) {o : Int} (ho : inI o) : pw_M g l yX6_isSymbol cX6_isSymbol 2 (some .boolean) { frames := 0, cells := 0, slots := 0, locals := 0 } [.ref (w 2).1, .int (iZ o)] w (fun r w' => w = w' ∧ r = some (.int (iZ (b2i (sS σ n o))))) := by
  refine pw_M.of (by decide) (Nat.le_of_ble_eq_true rfl) rfl ?_
  intro p e s m args below meth c C hr hn
  have hN := hS.rN
  refine pw_iload_n (i := 1) C dX6_isSymbol_0 rfl rfl ?_
  refine pw_if_lt (tgt := 27) C (by omega) dX6_isSymbol_1 (by decide) (fun h_1 => ?_) (fun h_1 => ?_)
  · refine pw_iconst C dX6_isSymbol_27 ?_
    exact pw_zret C hr (by decide +kernel) dX6_isSymbol_28 ⟨rfl, by rw [show sS σ n o = false from by first | exact sK_0 (by omega) | exact sK_n (by omega) | exact sK_p (decide_eq_false (by omega))]; rfl⟩
  · refine pw_iload_n (i := 1) C dX6_isSymbol_4 rfl rfl ?_
    refine pw_aload_n (i := 0) C dX6_isSymbol_5 rfl rfl (Or.inr ⟨_, rfl⟩) ?_
    refine pw_get (j := 5) C cl_X6 fl_X6_67 (by decide) rfl hS.1 rfl dX6_isSymbol_6 ?_
    refine pw_icmp_ge (tgt := 27) C (by omega) (by omega) dX6_isSymbol_9 (by decide) (fun h_2 => ?_) (fun h_2 => ?_)
    · refine pw_iconst C dX6_isSymbol_27 ?_
      exact pw_zret C hr (by decide +kernel) dX6_isSymbol_28 ⟨rfl, by rw [show sS σ n o = false from by first | exact sK_0 (by omega) | exact sK_n (by omega) | exact sK_p (decide_eq_false (by omega))]; rfl⟩
    · refine pw_aload_n (i := 0) C dX6_isSymbol_12 rfl rfl (Or.inr ⟨_, rfl⟩) ?_
      refine pw_get (j := 1) C cl_X6 fl_X6_15 (by decide) rfl hS.1 rfl dX6_isSymbol_13 ?_
      refine pw_iload_n (i := 1) C dX6_isSymbol_16 rfl rfl ?_
      have g_3 := (hS.rI 1 (by decide)) o
      refine pw_iald C hS.2.2.1 ⟨by omega, by omega, by omega⟩ dX6_isSymbol_17 ?_
      refine pw_bipush C dX6_isSymbol_18 (by decide) ?_
      refine pw_icmp_ne (tgt := 27) C (by omega) (by omega) dX6_isSymbol_20 (by decide) (fun h_4 => ?_) (fun h_4 => ?_)
      · refine pw_iconst C dX6_isSymbol_27 ?_
        exact pw_zret C hr (by decide +kernel) dX6_isSymbol_28 ⟨rfl, by rw [show sS σ n o = false from by first | exact sK_0 (by omega) | exact sK_n (by omega) | exact sK_p (decide_eq_false (by omega))]; rfl⟩
      · refine pw_iconst C dX6_isSymbol_23 ?_
        refine pw_goto (tgt := 28) C dX6_isSymbol_24 (by decide) ?_
        exact pw_zret C hr (by decide +kernel) dX6_isSymbol_28 ⟨rfl, by rw [show sS σ n o = true from sK_t (by omega) (by omega) (decide_eq_true (by omega))]; rfl⟩

set_option maxRecDepth 100000 in
set_option maxHeartbeats 4000000 in
/-- isVariable -/
theorem m_X6_isVariable (g : pw_P) (l : Launch) {w : pw_W} {cap : Nat} {σ : Nat → Int → Int} {n : Int} (hS : St g w cap σ n) {o : Int} (ho : inI o) : pw_M g l yX6_isVariable cX6_isVariable 2 (some .boolean) { frames := 1, cells := 0, slots := 0, locals := 21 } [.ref (w 2).1, .int (iZ o)] w (fun r w' => w = w' ∧ r = some (.int (iZ (b2i (sV σ n o))))) := by
  refine pw_M.of (by decide) (Nat.le_of_ble_eq_true rfl) rfl ?_
  intro p e s m args below meth c C hr hn
  have hN := hS.rN
  refine pw_aload_n (i := 0) C dX6_isVariable_0 rfl rfl (Or.inr ⟨_, rfl⟩) ?_
  refine pw_iload_n (i := 1) C dX6_isVariable_1 rfl rfl ?_
  refine pw_callV (As := [.int (iZ o)]) (st := []) C (m_X6_isSymbol g l hS (o := o) (by omega)) my_X6_isSymbol ml_X6_71 (pw_rec.of C hS.1 cl_X6.1) rfl ⟨by decide, by decide⟩ ⟨Nat.le_of_ble_eq_true rfl, Nat.le_of_ble_eq_true rfl⟩ rfl (Nat.le_of_ble_eq_true rfl) dX6_isVariable_2 ?_
  rintro _ _ ⟨rfl, rfl⟩
  refine pw_stk (st' := [.int (iZ (b2i (sS σ n o)))]) rfl ?_
  refine pw_if_eqB (tgt := 21) C dX6_isVariable_5 (by decide) (fun h_1 => ?_) (fun h_1 => ?_)
  · refine pw_iconst C dX6_isVariable_21 ?_
    exact pw_zret C hr (by decide +kernel) dX6_isVariable_22 ⟨rfl, by rw [show sV σ n o = false from by simp_all [sV]]; rfl⟩
  · refine pw_iload_n (i := 1) C dX6_isVariable_8 rfl rfl ?_
    refine pw_if_eq (tgt := 21) C (by omega) dX6_isVariable_9 (by decide) (fun h_2 => ?_) (fun h_2 => ?_)
    · refine pw_iconst C dX6_isVariable_21 ?_
      exact pw_zret C hr (by decide +kernel) dX6_isVariable_22 ⟨rfl, by rw [show sV σ n o = false from by simp_all [sV]]; rfl⟩
    · refine pw_iload_n (i := 1) C dX6_isVariable_12 rfl rfl ?_
      refine pw_iconst C dX6_isVariable_13 ?_
      refine pw_icmp_eq (tgt := 21) C (by omega) (by omega) dX6_isVariable_14 (by decide) (fun h_3 => ?_) (fun h_3 => ?_)
      · refine pw_iconst C dX6_isVariable_21 ?_
        exact pw_zret C hr (by decide +kernel) dX6_isVariable_22 ⟨rfl, by rw [show sV σ n o = false from by simp_all [sV]]; rfl⟩
      · refine pw_iconst C dX6_isVariable_17 ?_
        refine pw_goto (tgt := 22) C dX6_isVariable_18 (by decide) ?_
        exact pw_zret C hr (by decide +kernel) dX6_isVariable_22 ⟨rfl, by rw [show sV σ n o = true from by simp_all [sV]]; rfl⟩

set_option maxRecDepth 100000 in
set_option maxHeartbeats 4000000 in
/-- heightOf -/
theorem m_X6_heightOf (g : pw_P) (l : Launch) {w : pw_W} {cap : Nat} {σ : Nat → Int → Int} {n : Int} (hS : St g w cap σ n) {o : Int} (ho : inI o) : pw_M g l yX6_heightOf cX6_heightOf 2 (some .int) { frames := 0, cells := 0, slots := 0, locals := 0 } [.ref (w 2).1, .int (iZ o)] w (fun r w' => w = w' ∧ r = some (.int (iZ (sHt σ n o)))) := by
  refine pw_M.of (by decide) (Nat.le_of_ble_eq_true rfl) rfl ?_
  intro p e s m args below meth c C hr hn
  have hN := hS.rN
  refine pw_iload_n (i := 1) C dX6_heightOf_0 rfl rfl ?_
  refine pw_if_lt (tgt := 21) C (by omega) dX6_heightOf_1 (by decide) (fun h_1 => ?_) (fun h_1 => ?_)
  · refine pw_iconst C dX6_heightOf_21 ?_
    exact pw_iret C hr dX6_heightOf_22 ⟨rfl, by rw [show sHt σ n o = 0 from by unfold sHt; rw [if_neg (by omega)]]⟩
  · refine pw_iload_n (i := 1) C dX6_heightOf_4 rfl rfl ?_
    refine pw_aload_n (i := 0) C dX6_heightOf_5 rfl rfl (Or.inr ⟨_, rfl⟩) ?_
    refine pw_get (j := 5) C cl_X6 fl_X6_67 (by decide) rfl hS.1 rfl dX6_heightOf_6 ?_
    refine pw_icmp_ge (tgt := 21) C (by omega) (by omega) dX6_heightOf_9 (by decide) (fun h_2 => ?_) (fun h_2 => ?_)
    · refine pw_iconst C dX6_heightOf_21 ?_
      exact pw_iret C hr dX6_heightOf_22 ⟨rfl, by rw [show sHt σ n o = 0 from by unfold sHt; rw [if_neg (by omega)]]⟩
    · refine pw_aload_n (i := 0) C dX6_heightOf_12 rfl rfl (Or.inr ⟨_, rfl⟩) ?_
      refine pw_get (j := 2) C cl_X6 fl_X6_19 (by decide) rfl hS.1 rfl dX6_heightOf_13 ?_
      refine pw_iload_n (i := 1) C dX6_heightOf_16 rfl rfl ?_
      have g_3 := (hS.rI 2 (by decide)) o
      refine pw_iald C hS.2.2.2.1 ⟨by omega, by omega, by omega⟩ dX6_heightOf_17 ?_
      refine pw_goto (tgt := 22) C dX6_heightOf_18 (by decide) ?_
      exact pw_iret C hr dX6_heightOf_22 ⟨rfl, by rw [show sHt σ n o = σ 2 o from by unfold sHt; rw [if_pos (by omega)]]⟩

set_option maxRecDepth 100000 in
set_option maxHeartbeats 4000000 in
/-- head -/
theorem m_X6_head (g : pw_P) (l : Launch) {w : pw_W} {cap : Nat} {σ : Nat → Int → Int} {n : Int} (hS : St g w cap σ n) {o : Int} (ho : inI o) : pw_M g l yX6_head cX6_head 2 (some .int) { frames := 1, cells := 0, slots := 0, locals := 21 } [.ref (w 2).1, .int (iZ o)] w (fun r w' => w = w' ∧ r = some (.int (iZ (sHd σ n o)))) := by
  refine pw_M.of (by decide) (Nat.le_of_ble_eq_true rfl) rfl ?_
  intro p e s m args below meth c C hr hn
  have hN := hS.rN
  refine pw_aload_n (i := 0) C dX6_head_0 rfl rfl (Or.inr ⟨_, rfl⟩) ?_
  refine pw_iload_n (i := 1) C dX6_head_1 rfl rfl ?_
  refine pw_callV (As := [.int (iZ o)]) (st := []) C (m_X6_isPair g l hS (o := o) (by omega)) my_X6_isPair ml_X6_81 (pw_rec.of C hS.1 cl_X6.1) rfl ⟨by decide, by decide⟩ ⟨Nat.le_of_ble_eq_true rfl, Nat.le_of_ble_eq_true rfl⟩ rfl (Nat.le_of_ble_eq_true rfl) dX6_head_2 ?_
  rintro _ _ ⟨rfl, rfl⟩
  refine pw_stk (st' := [.int (iZ (b2i (sP σ n o)))]) rfl ?_
  refine pw_if_eqB (tgt := 18) C dX6_head_5 (by decide) (fun h_1 => ?_) (fun h_1 => ?_)
  · refine pw_iconst C dX6_head_18 ?_
    exact pw_iret C hr dX6_head_19 ⟨rfl, by rw [show sHd σ n o = 0 from by simp_all [sHd]]⟩
  · have hb := sP_in h_1
    refine pw_aload_n (i := 0) C dX6_head_8 rfl rfl (Or.inr ⟨_, rfl⟩) ?_
    refine pw_get (j := 0) C cl_X6 fl_X6_11 (by decide) rfl hS.1 rfl dX6_head_9 ?_
    refine pw_iload_n (i := 1) C dX6_head_12 rfl rfl ?_
    have g_2 := (hS.rL) o
    refine pw_lald C hS.2.1 ⟨by omega, by omega, by omega⟩ dX6_head_13 ?_
    refine pw_l2i C dX6_head_14 ?_
    refine pw_goto (tgt := 19) C dX6_head_15 (by decide) ?_
    exact pw_iret C hr dX6_head_19 ⟨rfl, by rw [show sHd σ n o = σ 0 o from by simp_all [sHd]]⟩

set_option maxRecDepth 100000 in
set_option maxHeartbeats 4000000 in
/-- tail -/
theorem m_X6_tail (g : pw_P) (l : Launch) {w : pw_W} {cap : Nat} {σ : Nat → Int → Int} {n : Int} (hS : St g w cap σ n) {o : Int} (ho : inI o) : pw_M g l yX6_tail cX6_tail 2 (some .int) { frames := 1, cells := 0, slots := 0, locals := 21 } [.ref (w 2).1, .int (iZ o)] w (fun r w' => w = w' ∧ r = some (.int (iZ (sTl σ n o)))) := by
  refine pw_M.of (by decide) (Nat.le_of_ble_eq_true rfl) rfl ?_
  intro p e s m args below meth c C hr hn
  have hN := hS.rN
  refine pw_aload_n (i := 0) C dX6_tail_0 rfl rfl (Or.inr ⟨_, rfl⟩) ?_
  refine pw_iload_n (i := 1) C dX6_tail_1 rfl rfl ?_
  refine pw_callV (As := [.int (iZ o)]) (st := []) C (m_X6_isPair g l hS (o := o) (by omega)) my_X6_isPair ml_X6_81 (pw_rec.of C hS.1 cl_X6.1) rfl ⟨by decide, by decide⟩ ⟨Nat.le_of_ble_eq_true rfl, Nat.le_of_ble_eq_true rfl⟩ rfl (Nat.le_of_ble_eq_true rfl) dX6_tail_2 ?_
  rintro _ _ ⟨rfl, rfl⟩
  refine pw_stk (st' := [.int (iZ (b2i (sP σ n o)))]) rfl ?_
  refine pw_if_eqB (tgt := 17) C dX6_tail_5 (by decide) (fun h_1 => ?_) (fun h_1 => ?_)
  · refine pw_iconst C dX6_tail_17 ?_
    exact pw_iret C hr dX6_tail_18 ⟨rfl, by rw [show sTl σ n o = 0 from by simp_all [sTl]]⟩
  · have hb := sP_in h_1
    refine pw_aload_n (i := 0) C dX6_tail_8 rfl rfl (Or.inr ⟨_, rfl⟩) ?_
    refine pw_get (j := 1) C cl_X6 fl_X6_15 (by decide) rfl hS.1 rfl dX6_tail_9 ?_
    refine pw_iload_n (i := 1) C dX6_tail_12 rfl rfl ?_
    have g_2 := (hS.rI 1 (by decide)) o
    refine pw_iald C hS.2.2.1 ⟨by omega, by omega, by omega⟩ dX6_tail_13 ?_
    refine pw_goto (tgt := 18) C dX6_tail_14 (by decide) ?_
    exact pw_iret C hr dX6_tail_18 ⟨rfl, by rw [show sTl σ n o = σ 1 o from by simp_all [sTl]]⟩

set_option maxRecDepth 100000 in
set_option maxHeartbeats 4000000 in
/-- amount -/
theorem m_X6_amount (g : pw_P) (l : Launch) {w : pw_W} {cap : Nat} {σ : Nat → Int → Int} {n : Int} (hS : St g w cap σ n) {o : Int} (ho : inI o) : pw_M g l yX6_amount cX6_amount 2 (some .long) { frames := 1, cells := 0, slots := 0, locals := 21 } [.ref (w 2).1, .int (iZ o)] w (fun r w' => w = w' ∧ r = some (.long (lZ (sAm σ n o)))) := by
  refine pw_M.of (by decide) (Nat.le_of_ble_eq_true rfl) rfl ?_
  intro p e s m args below meth c C hr hn
  have hN := hS.rN
  refine pw_aload_n (i := 0) C dX6_amount_0 rfl rfl (Or.inr ⟨_, rfl⟩) ?_
  refine pw_iload_n (i := 1) C dX6_amount_1 rfl rfl ?_
  refine pw_callV (As := [.int (iZ o)]) (st := []) C (m_X6_isNatural g l hS (o := o) (by omega)) my_X6_isNatural ml_X6_84 (pw_rec.of C hS.1 cl_X6.1) rfl ⟨by decide, by decide⟩ ⟨Nat.le_of_ble_eq_true rfl, Nat.le_of_ble_eq_true rfl⟩ rfl (Nat.le_of_ble_eq_true rfl) dX6_amount_2 ?_
  rintro _ _ ⟨rfl, rfl⟩
  refine pw_stk (st' := [.int (iZ (b2i (sN σ n o)))]) rfl ?_
  refine pw_if_eqB (tgt := 17) C dX6_amount_5 (by decide) (fun h_1 => ?_) (fun h_1 => ?_)
  · refine pw_lconst (z := 0) C dX6_amount_17 (by decide) ?_
    exact pw_lret C hr dX6_amount_18 ⟨rfl, by rw [show sAm σ n o = 0 from by simp_all [sAm]]⟩
  · have hb := sN_in h_1
    refine pw_aload_n (i := 0) C dX6_amount_8 rfl rfl (Or.inr ⟨_, rfl⟩) ?_
    refine pw_get (j := 0) C cl_X6 fl_X6_11 (by decide) rfl hS.1 rfl dX6_amount_9 ?_
    refine pw_iload_n (i := 1) C dX6_amount_12 rfl rfl ?_
    have g_2 := (hS.rL) o
    refine pw_lald C hS.2.1 ⟨by omega, by omega, by omega⟩ dX6_amount_13 ?_
    refine pw_goto (tgt := 18) C dX6_amount_14 (by decide) ?_
    exact pw_lret C hr dX6_amount_18 ⟨rfl, by rw [show sAm σ n o = σ 0 o from by simp_all [sAm]]⟩

set_option maxRecDepth 100000 in
set_option maxHeartbeats 4000000 in
/-- spelling -/
theorem m_X6_spelling (g : pw_P) (l : Launch) {w : pw_W} {cap : Nat} {σ : Nat → Int → Int} {n : Int} (hS : St g w cap σ n) {o : Int} (ho : inI o) : pw_M g l yX6_spelling cX6_spelling 2 (some .long) { frames := 1, cells := 0, slots := 0, locals := 21 } [.ref (w 2).1, .int (iZ o)] w (fun r w' => w = w' ∧ r = some (.long (lZ (sSp σ n o)))) := by
  refine pw_M.of (by decide) (Nat.le_of_ble_eq_true rfl) rfl ?_
  intro p e s m args below meth c C hr hn
  have hN := hS.rN
  refine pw_aload_n (i := 0) C dX6_spelling_0 rfl rfl (Or.inr ⟨_, rfl⟩) ?_
  refine pw_iload_n (i := 1) C dX6_spelling_1 rfl rfl ?_
  refine pw_callV (As := [.int (iZ o)]) (st := []) C (m_X6_isSymbol g l hS (o := o) (by omega)) my_X6_isSymbol ml_X6_71 (pw_rec.of C hS.1 cl_X6.1) rfl ⟨by decide, by decide⟩ ⟨Nat.le_of_ble_eq_true rfl, Nat.le_of_ble_eq_true rfl⟩ rfl (Nat.le_of_ble_eq_true rfl) dX6_spelling_2 ?_
  rintro _ _ ⟨rfl, rfl⟩
  refine pw_stk (st' := [.int (iZ (b2i (sS σ n o)))]) rfl ?_
  refine pw_if_eqB (tgt := 17) C dX6_spelling_5 (by decide) (fun h_1 => ?_) (fun h_1 => ?_)
  · refine pw_lconst (z := 0) C dX6_spelling_17 (by decide) ?_
    exact pw_lret C hr dX6_spelling_18 ⟨rfl, by rw [show sSp σ n o = 0 from by simp_all [sSp]]⟩
  · have hb := sS_in h_1
    refine pw_aload_n (i := 0) C dX6_spelling_8 rfl rfl (Or.inr ⟨_, rfl⟩) ?_
    refine pw_get (j := 0) C cl_X6 fl_X6_11 (by decide) rfl hS.1 rfl dX6_spelling_9 ?_
    refine pw_iload_n (i := 1) C dX6_spelling_12 rfl rfl ?_
    have g_2 := (hS.rL) o
    refine pw_lald C hS.2.1 ⟨by omega, by omega, by omega⟩ dX6_spelling_13 ?_
    refine pw_goto (tgt := 18) C dX6_spelling_14 (by decide) ?_
    exact pw_lret C hr dX6_spelling_18 ⟨rfl, by rw [show sSp σ n o = σ 0 o from by simp_all [sSp]]⟩

set_option maxRecDepth 100000 in
set_option maxHeartbeats 4000000 in
/-- second -/
theorem m_X6_second (g : pw_P) (l : Launch) {w : pw_W} {cap : Nat} {σ : Nat → Int → Int} {n : Int} (hS : St g w cap σ n) {o : Int} (ho : inI o) : pw_M g l yX6_second cX6_second 2 (some .int) { frames := 2, cells := 0, slots := 0, locals := 42 } [.ref (w 2).1, .int (iZ o)] w (fun r w' => w = w' ∧ r = some (.int (iZ (sHd σ n (sTl σ n o))))) := by
  refine pw_M.of (by decide) (Nat.le_of_ble_eq_true rfl) rfl ?_
  intro p e s m args below meth c C hr hn
  have hN := hS.rN
  have t1 := sTl_in hS o
  have t2 := sTl_in hS (sTl σ n o)
  have t3 := sTl_in hS (sTl σ n (sTl σ n o))
  refine pw_aload_n (i := 0) C dX6_second_0 rfl rfl (Or.inr ⟨_, rfl⟩) ?_
  refine pw_aload_n (i := 0) C dX6_second_1 rfl rfl (Or.inr ⟨_, rfl⟩) ?_
  refine pw_iload_n (i := 1) C dX6_second_2 rfl rfl ?_
  refine pw_callV (As := [.int (iZ o)]) (st := [.ref ((w 2).1)]) C (m_X6_tail g l hS (o := o) (by omega)) my_X6_tail ml_X6_78 (pw_rec.of C hS.1 cl_X6.1) rfl ⟨by decide, by decide⟩ ⟨Nat.le_of_ble_eq_true rfl, Nat.le_of_ble_eq_true rfl⟩ rfl (Nat.le_of_ble_eq_true rfl) dX6_second_3 ?_
  rintro _ _ ⟨rfl, rfl⟩
  refine pw_stk (st' := [.int (iZ (sTl σ n o)), .ref ((w 2).1)]) rfl ?_
  refine pw_callV (As := [.int (iZ (sTl σ n o))]) (st := []) C (m_X6_head g l hS (o := sTl σ n o) (by omega)) my_X6_head ml_X6_75 (pw_rec.of C hS.1 cl_X6.1) rfl ⟨by decide, by decide⟩ ⟨Nat.le_of_ble_eq_true rfl, Nat.le_of_ble_eq_true rfl⟩ rfl (Nat.le_of_ble_eq_true rfl) dX6_second_6 ?_
  rintro _ _ ⟨rfl, rfl⟩
  refine pw_stk (st' := [.int (iZ (sHd σ n (sTl σ n o)))]) rfl ?_
  exact pw_iret C hr dX6_second_9 ⟨rfl, rfl⟩

set_option maxRecDepth 100000 in
set_option maxHeartbeats 4000000 in
/-- third -/
theorem m_X6_third (g : pw_P) (l : Launch) {w : pw_W} {cap : Nat} {σ : Nat → Int → Int} {n : Int} (hS : St g w cap σ n) {o : Int} (ho : inI o) : pw_M g l yX6_third cX6_third 2 (some .int) { frames := 2, cells := 0, slots := 0, locals := 42 } [.ref (w 2).1, .int (iZ o)] w (fun r w' => w = w' ∧ r = some (.int (iZ (sHd σ n (sTl σ n (sTl σ n o)))))) := by
  refine pw_M.of (by decide) (Nat.le_of_ble_eq_true rfl) rfl ?_
  intro p e s m args below meth c C hr hn
  have hN := hS.rN
  have t1 := sTl_in hS o
  have t2 := sTl_in hS (sTl σ n o)
  have t3 := sTl_in hS (sTl σ n (sTl σ n o))
  refine pw_aload_n (i := 0) C dX6_third_0 rfl rfl (Or.inr ⟨_, rfl⟩) ?_
  refine pw_aload_n (i := 0) C dX6_third_1 rfl rfl (Or.inr ⟨_, rfl⟩) ?_
  refine pw_aload_n (i := 0) C dX6_third_2 rfl rfl (Or.inr ⟨_, rfl⟩) ?_
  refine pw_iload_n (i := 1) C dX6_third_3 rfl rfl ?_
  refine pw_callV (As := [.int (iZ o)]) (st := [.ref ((w 2).1), .ref ((w 2).1)]) C (m_X6_tail g l hS (o := o) (by omega)) my_X6_tail ml_X6_78 (pw_rec.of C hS.1 cl_X6.1) rfl ⟨by decide, by decide⟩ ⟨Nat.le_of_ble_eq_true rfl, Nat.le_of_ble_eq_true rfl⟩ rfl (Nat.le_of_ble_eq_true rfl) dX6_third_4 ?_
  rintro _ _ ⟨rfl, rfl⟩
  refine pw_stk (st' := [.int (iZ (sTl σ n o)), .ref ((w 2).1), .ref ((w 2).1)]) rfl ?_
  refine pw_callV (As := [.int (iZ (sTl σ n o))]) (st := [.ref ((w 2).1)]) C (m_X6_tail g l hS (o := sTl σ n o) (by omega)) my_X6_tail ml_X6_78 (pw_rec.of C hS.1 cl_X6.1) rfl ⟨by decide, by decide⟩ ⟨Nat.le_of_ble_eq_true rfl, Nat.le_of_ble_eq_true rfl⟩ rfl (Nat.le_of_ble_eq_true rfl) dX6_third_7 ?_
  rintro _ _ ⟨rfl, rfl⟩
  refine pw_stk (st' := [.int (iZ (sTl σ n (sTl σ n o))), .ref ((w 2).1)]) rfl ?_
  refine pw_callV (As := [.int (iZ (sTl σ n (sTl σ n o)))]) (st := []) C (m_X6_head g l hS (o := sTl σ n (sTl σ n o)) (by omega)) my_X6_head ml_X6_75 (pw_rec.of C hS.1 cl_X6.1) rfl ⟨by decide, by decide⟩ ⟨Nat.le_of_ble_eq_true rfl, Nat.le_of_ble_eq_true rfl⟩ rfl (Nat.le_of_ble_eq_true rfl) dX6_third_10 ?_
  rintro _ _ ⟨rfl, rfl⟩
  refine pw_stk (st' := [.int (iZ (sHd σ n (sTl σ n (sTl σ n o))))]) rfl ?_
  exact pw_iret C hr dX6_third_13 ⟨rfl, rfl⟩

set_option maxRecDepth 100000 in
set_option maxHeartbeats 4000000 in
/-- fourth -/
theorem m_X6_fourth (g : pw_P) (l : Launch) {w : pw_W} {cap : Nat} {σ : Nat → Int → Int} {n : Int} (hS : St g w cap σ n) {o : Int} (ho : inI o) : pw_M g l yX6_fourth cX6_fourth 2 (some .int) { frames := 2, cells := 0, slots := 0, locals := 42 } [.ref (w 2).1, .int (iZ o)] w (fun r w' => w = w' ∧ r = some (.int (iZ (sHd σ n (sTl σ n (sTl σ n (sTl σ n o))))))) := by
  refine pw_M.of (by decide) (Nat.le_of_ble_eq_true rfl) rfl ?_
  intro p e s m args below meth c C hr hn
  have hN := hS.rN
  have t1 := sTl_in hS o
  have t2 := sTl_in hS (sTl σ n o)
  have t3 := sTl_in hS (sTl σ n (sTl σ n o))
  refine pw_aload_n (i := 0) C dX6_fourth_0 rfl rfl (Or.inr ⟨_, rfl⟩) ?_
  refine pw_aload_n (i := 0) C dX6_fourth_1 rfl rfl (Or.inr ⟨_, rfl⟩) ?_
  refine pw_aload_n (i := 0) C dX6_fourth_2 rfl rfl (Or.inr ⟨_, rfl⟩) ?_
  refine pw_aload_n (i := 0) C dX6_fourth_3 rfl rfl (Or.inr ⟨_, rfl⟩) ?_
  refine pw_iload_n (i := 1) C dX6_fourth_4 rfl rfl ?_
  refine pw_callV (As := [.int (iZ o)]) (st := [.ref ((w 2).1), .ref ((w 2).1), .ref ((w 2).1)]) C (m_X6_tail g l hS (o := o) (by omega)) my_X6_tail ml_X6_78 (pw_rec.of C hS.1 cl_X6.1) rfl ⟨by decide, by decide⟩ ⟨Nat.le_of_ble_eq_true rfl, Nat.le_of_ble_eq_true rfl⟩ rfl (Nat.le_of_ble_eq_true rfl) dX6_fourth_5 ?_
  rintro _ _ ⟨rfl, rfl⟩
  refine pw_stk (st' := [.int (iZ (sTl σ n o)), .ref ((w 2).1), .ref ((w 2).1), .ref ((w 2).1)]) rfl ?_
  refine pw_callV (As := [.int (iZ (sTl σ n o))]) (st := [.ref ((w 2).1), .ref ((w 2).1)]) C (m_X6_tail g l hS (o := sTl σ n o) (by omega)) my_X6_tail ml_X6_78 (pw_rec.of C hS.1 cl_X6.1) rfl ⟨by decide, by decide⟩ ⟨Nat.le_of_ble_eq_true rfl, Nat.le_of_ble_eq_true rfl⟩ rfl (Nat.le_of_ble_eq_true rfl) dX6_fourth_8 ?_
  rintro _ _ ⟨rfl, rfl⟩
  refine pw_stk (st' := [.int (iZ (sTl σ n (sTl σ n o))), .ref ((w 2).1), .ref ((w 2).1)]) rfl ?_
  refine pw_callV (As := [.int (iZ (sTl σ n (sTl σ n o)))]) (st := [.ref ((w 2).1)]) C (m_X6_tail g l hS (o := sTl σ n (sTl σ n o)) (by omega)) my_X6_tail ml_X6_78 (pw_rec.of C hS.1 cl_X6.1) rfl ⟨by decide, by decide⟩ ⟨Nat.le_of_ble_eq_true rfl, Nat.le_of_ble_eq_true rfl⟩ rfl (Nat.le_of_ble_eq_true rfl) dX6_fourth_11 ?_
  rintro _ _ ⟨rfl, rfl⟩
  refine pw_stk (st' := [.int (iZ (sTl σ n (sTl σ n (sTl σ n o)))), .ref ((w 2).1)]) rfl ?_
  refine pw_callV (As := [.int (iZ (sTl σ n (sTl σ n (sTl σ n o))))]) (st := []) C (m_X6_head g l hS (o := sTl σ n (sTl σ n (sTl σ n o))) (by omega)) my_X6_head ml_X6_75 (pw_rec.of C hS.1 cl_X6.1) rfl ⟨by decide, by decide⟩ ⟨Nat.le_of_ble_eq_true rfl, Nat.le_of_ble_eq_true rfl⟩ rfl (Nat.le_of_ble_eq_true rfl) dX6_fourth_14 ?_
  rintro _ _ ⟨rfl, rfl⟩
  refine pw_stk (st' := [.int (iZ (sHd σ n (sTl σ n (sTl σ n (sTl σ n o)))))]) rfl ?_
  exact pw_iret C hr dX6_fourth_17 ⟨rfl, rfl⟩

set_option maxRecDepth 100000 in
set_option maxHeartbeats 4000000 in
/-- isQuoted -/
theorem m_X6_isQuoted (g : pw_P) (l : Launch) {w : pw_W} {cap : Nat} {σ : Nat → Int → Int} {n : Int} (hS : St g w cap σ n) {o : Int} (ho : inI o) (hh : sHI σ n) : pw_M g l yX6_isQuoted cX6_isQuoted 2 (some .boolean) { frames := 2, cells := 0, slots := 0, locals := 42 } [.ref (w 2).1, .int (iZ o)] w (fun r w' => w = w' ∧ r = some (.int (iZ (b2i (sQ σ n o))))) := by
  refine pw_M.of (by decide) (Nat.le_of_ble_eq_true rfl) rfl ?_
  intro p e s m args below meth c C hr hn
  have hN := hS.rN
  have t0 := sHd_in hS hh o
  have t1 := sTl_in hS o
  have t2 := sTl_in hS (sTl σ n o)
  refine pw_aload_n (i := 0) C dX6_isQuoted_0 rfl rfl (Or.inr ⟨_, rfl⟩) ?_
  refine pw_iload_n (i := 1) C dX6_isQuoted_1 rfl rfl ?_
  refine pw_callV (As := [.int (iZ o)]) (st := []) C (m_X6_head g l hS (o := o) (by omega)) my_X6_head ml_X6_75 (pw_rec.of C hS.1 cl_X6.1) rfl ⟨by decide, by decide⟩ ⟨Nat.le_of_ble_eq_true rfl, Nat.le_of_ble_eq_true rfl⟩ rfl (Nat.le_of_ble_eq_true rfl) dX6_isQuoted_2 ?_
  rintro _ _ ⟨rfl, rfl⟩
  refine pw_stk (st' := [.int (iZ (sHd σ n o))]) rfl ?_
  refine pw_iconst C dX6_isQuoted_5 ?_
  refine pw_icmp_ne (tgt := 37) C (by omega) (by omega) dX6_isQuoted_6 (by decide) (fun h_1 => ?_) (fun h_1 => ?_)
  · refine pw_iconst C dX6_isQuoted_37 ?_
    exact pw_zret C hr (by decide +kernel) dX6_isQuoted_38 ⟨rfl, by rw [show sQ σ n o = false from by simp_all [sQ]]; rfl⟩
  · refine pw_aload_n (i := 0) C dX6_isQuoted_9 rfl rfl (Or.inr ⟨_, rfl⟩) ?_
    refine pw_aload_n (i := 0) C dX6_isQuoted_10 rfl rfl (Or.inr ⟨_, rfl⟩) ?_
    refine pw_iload_n (i := 1) C dX6_isQuoted_11 rfl rfl ?_
    refine pw_callV (As := [.int (iZ o)]) (st := [.ref ((w 2).1)]) C (m_X6_tail g l hS (o := o) (by omega)) my_X6_tail ml_X6_78 (pw_rec.of C hS.1 cl_X6.1) rfl ⟨by decide, by decide⟩ ⟨Nat.le_of_ble_eq_true rfl, Nat.le_of_ble_eq_true rfl⟩ rfl (Nat.le_of_ble_eq_true rfl) dX6_isQuoted_12 ?_
    rintro _ _ ⟨rfl, rfl⟩
    refine pw_stk (st' := [.int (iZ (sTl σ n o)), .ref ((w 2).1)]) rfl ?_
    refine pw_callV (As := [.int (iZ (sTl σ n o))]) (st := []) C (m_X6_isPair g l hS (o := sTl σ n o) (by omega)) my_X6_isPair ml_X6_81 (pw_rec.of C hS.1 cl_X6.1) rfl ⟨by decide, by decide⟩ ⟨Nat.le_of_ble_eq_true rfl, Nat.le_of_ble_eq_true rfl⟩ rfl (Nat.le_of_ble_eq_true rfl) dX6_isQuoted_15 ?_
    rintro _ _ ⟨rfl, rfl⟩
    refine pw_stk (st' := [.int (iZ (b2i (sP σ n (sTl σ n o))))]) rfl ?_
    refine pw_if_eqB (tgt := 37) C dX6_isQuoted_18 (by decide) (fun h_2 => ?_) (fun h_2 => ?_)
    · refine pw_iconst C dX6_isQuoted_37 ?_
      exact pw_zret C hr (by decide +kernel) dX6_isQuoted_38 ⟨rfl, by rw [show sQ σ n o = false from by simp_all [sQ]]; rfl⟩
    · refine pw_aload_n (i := 0) C dX6_isQuoted_21 rfl rfl (Or.inr ⟨_, rfl⟩) ?_
      refine pw_aload_n (i := 0) C dX6_isQuoted_22 rfl rfl (Or.inr ⟨_, rfl⟩) ?_
      refine pw_iload_n (i := 1) C dX6_isQuoted_23 rfl rfl ?_
      refine pw_callV (As := [.int (iZ o)]) (st := [.ref ((w 2).1)]) C (m_X6_tail g l hS (o := o) (by omega)) my_X6_tail ml_X6_78 (pw_rec.of C hS.1 cl_X6.1) rfl ⟨by decide, by decide⟩ ⟨Nat.le_of_ble_eq_true rfl, Nat.le_of_ble_eq_true rfl⟩ rfl (Nat.le_of_ble_eq_true rfl) dX6_isQuoted_24 ?_
      rintro _ _ ⟨rfl, rfl⟩
      refine pw_stk (st' := [.int (iZ (sTl σ n o)), .ref ((w 2).1)]) rfl ?_
      refine pw_callV (As := [.int (iZ (sTl σ n o))]) (st := []) C (m_X6_tail g l hS (o := sTl σ n o) (by omega)) my_X6_tail ml_X6_78 (pw_rec.of C hS.1 cl_X6.1) rfl ⟨by decide, by decide⟩ ⟨Nat.le_of_ble_eq_true rfl, Nat.le_of_ble_eq_true rfl⟩ rfl (Nat.le_of_ble_eq_true rfl) dX6_isQuoted_27 ?_
      rintro _ _ ⟨rfl, rfl⟩
      refine pw_stk (st' := [.int (iZ (sTl σ n (sTl σ n o)))]) rfl ?_
      refine pw_if_ne (tgt := 37) C (by omega) dX6_isQuoted_30 (by decide) (fun h_3 => ?_) (fun h_3 => ?_)
      · refine pw_iconst C dX6_isQuoted_37 ?_
        exact pw_zret C hr (by decide +kernel) dX6_isQuoted_38 ⟨rfl, by rw [show sQ σ n o = false from by simp_all [sQ]]; rfl⟩
      · refine pw_iconst C dX6_isQuoted_33 ?_
        refine pw_goto (tgt := 38) C dX6_isQuoted_34 (by decide) ?_
        exact pw_zret C hr (by decide +kernel) dX6_isQuoted_38 ⟨rfl, by rw [show sQ σ n o = true from by simp_all [sQ]]; rfl⟩

