theorem pw_M.mono {g : pw_P} {l : Launch} {y : MethodName} {cc : ByteArray} {nL : Nat} {ret : Option FieldType} {rm : Room} {av : List Value} {w : pw_W} {post post' : Option Value → pw_W → Prop} (h : pw_M g l y cc nL ret rm av w post) (hp : ∀ r w', post r w' → post' r w') : pw_M g l y cc nL ret rm av w post' :=
  by
  unfold pw_M Met at h ⊢
  exact MetFree.mono h (fun a st hq => hq) (fun _ _ _ _ _ h => h) (fun a st o t hq q => ⟨⟨by obtain ⟨⟨r, w', h1, h2, h3⟩, -⟩ := q.1; exact ⟨r, w', h1, hp r w' h2, h3⟩, q.1.2⟩, q.2⟩)
/-- the bucket of an object: any number of ten bits will do -/
def bkt (a b : Int) : Int := ((lZ ((a * (-7046029254386353131) + b) * (-4658895280553007687))).toUInt64 >>> ((iZ 54).toInt64.toUInt64 &&& Int64.toUInt64 63)).toInt64.toInt
theorem u64_shr54 (x : UInt64) : 0 ≤ (x >>> ((iZ 54).toInt64.toUInt64 &&& Int64.toUInt64 63)).toInt64.toInt ∧ (x >>> ((iZ 54).toInt64.toUInt64 &&& Int64.toUInt64 63)).toInt64.toInt < 1024 := by
  have h54 : ((iZ 54).toInt64.toUInt64 &&& Int64.toUInt64 63) = 54 := by decide
  rw [h54]
  have h1 : (x >>> (54 : UInt64)).toNat < 1024 := by
    rw [UInt64.toNat_shiftRight]
    have h2 : (54 : UInt64).toNat % 64 = 54 := by decide
    rw [h2, Nat.shiftRight_eq_div_pow]
    have := x.toNat_lt
    omega
  have h3 : (x >>> (54 : UInt64)).toInt64.toInt = ((x >>> (54 : UInt64)).toNat : Int) := by
    generalize x >>> (54 : UInt64) = u at h1
    show u.toBitVec.toInt = _
    rw [BitVec.toInt_eq_toNat_of_lt]
    · rfl
    · show 2 * u.toNat < 2 ^ 64
      omega
  rw [h3]
  omega
theorem bkt_in (a b : Int) : 0 ≤ bkt a b ∧ bkt a b < 1024 := u64_shr54 _
/-- how many elements from here, at most fu turns -/
def lenF (σ : Nat → Int → Int) (n : Int) : Nat → Int → Int → Int
  | 0, _, _ => -1
  | f + 1, r, k => if r = 0 then k else if sP σ n r then lenF σ n f (sTl σ n r) (k + 1) else -1
def sLen (σ : Nat → Int → Int) (n o : Int) : Int := lenF σ n (n + 1).toNat o 0
def elF (σ : Nat → Int → Int) (n o : Int) : Nat → Int → Bool
  | 0, _ => false
  | f + 1, r => if sP σ n r then (if sHd σ n r = o then true else elF σ n o f (sTl σ n r)) else false
def sEl (σ : Nat → Int → Int) (n o q : Int) : Bool := elF σ n o n.toNat q
/-- the newest object ahead of k that lies in the bucket c -/
def lst (σ : Nat → Int → Int) (c : Int) : Nat → Int
  | 0 => -1
  | k + 1 => if bkt (σ 0 (k : Int)) (σ 1 (k : Int)) = c then (k : Int) else lst σ c k
theorem lst_in (σ : Nat → Int → Int) (c : Int) : ∀ k : Nat, -1 ≤ lst σ c k ∧ lst σ c k < k
  | 0 => by simp [lst]
  | k + 1 => by
    have := lst_in σ c k
    unfold lst
    split <;> omega
theorem lst_no (σ : Nat → Int → Int) (c : Int) : ∀ (k : Nat) (m : Int), lst σ c k < m → m < k → 0 ≤ m → bkt (σ 0 m) (σ 1 m) ≠ c
  | 0, m, _, h2, h3 => by omega
  | k + 1, m, h1, h2, h3 => by
    unfold lst at h1
    split at h1
    · omega
    · rename_i hk
      by_cases hm : m = k
      · rw [hm]; exact hk
      · exact lst_no σ c k m h1 (by omega) h3
theorem lst_is (σ : Nat → Int → Int) (c : Int) : ∀ (k : Nat), 0 ≤ lst σ c k → bkt (σ 0 (lst σ c k)) (σ 1 (lst σ c k)) = c
  | 0, h => by simp [lst] at h
  | k + 1, h => by
    unfold lst at h ⊢
    split
    · assumption
    · rename_i hk
      rw [if_neg hk] at h
      exact lst_is σ c k h
theorem lst_eq {σ σ' : Nat → Int → Int} (c : Int) : ∀ (k : Nat), (∀ m : Int, 0 ≤ m → m < k → σ' 0 m = σ 0 m ∧ σ' 1 m = σ 1 m) → lst σ' c k = lst σ c k
  | 0, _ => rfl
  | k + 1, h => by
    unfold lst
    rw [(h k (by omega) (by omega)).1, (h k (by omega) (by omega)).2, lst_eq c k (fun m h1 h2 => h m h1 (by omega))]
/-- the chains of the buckets -/
def sC (σ : Nat → Int → Int) (n : Int) : Prop := (∀ c : Int, 0 ≤ c → c < 1024 → σ 4 c = lst σ c n.toNat) ∧ ∀ i : Int, 0 ≤ i → i < n → σ 3 i = lst σ (bkt (σ 0 i) (σ 1 i)) i.toNat
def sM (f0 f1 f2 f3 f4 : Int → Int) : Nat → Int → Int := fun k => match k with
  | 0 => f0
  | 1 => f1
  | 2 => f2
  | 3 => f3
  | _ => f4
theorem sM_eta {g : pw_P} {w : pw_W} {cap : Nat} {σ : Nat → Int → Int} {n : Int} (h : St g w cap σ n) : St g w cap (sM (σ 0) (σ 1) (σ 2) (σ 3) (σ 4)) n :=
  ⟨h.1, h.2.1, h.2.2.1, h.2.2.2.1, h.2.2.2.2.1, h.2.2.2.2.2.1, h.rN, h.rL, fun k j hk => by
    match k, hk with
    | 1, _ => exact h.rI 1 (by decide) j
    | 2, _ => exact h.rI 2 (by decide) j
    | 3, _ => exact h.rI 3 (by decide) j
    | k + 4, _ => exact h.rI 4 (by decide) j⟩
theorem St.mk' {g : pw_P} {w : pw_W} {cap : Nat} {f0 f1 f2 f3 f4 : Int → Int} {n : Int} {a2 a3 a4 a5 a6 a7 : Nat} (h2 : w 2 = (a2, some (OB 6 [.ref a3, .ref a4, .ref a5, .ref a6, .ref a7, .int (iZ n)]))) (h3 : w 3 = (a3, some (AJ g cap f0))) (h4 : w 4 = (a4, some (AI g cap f1))) (h5 : w 5 = (a5, some (AI g cap f2))) (h6 : w 6 = (a6, some (AI g cap f3))) (h7 : w 7 = (a7, some (AI g 1024 f4)))
    (hn : 0 ≤ n ∧ n ≤ cap ∧ cap ≤ 16384) (r0 : ∀ j, inL (f0 j)) (r1 : ∀ j, inI (f1 j)) (r2 : ∀ j, inI (f2 j)) (r3 : ∀ j, inI (f3 j)) (r4 : ∀ j, inI (f4 j)) : St g w cap (sM f0 f1 f2 f3 f4) n := by
  refine ⟨by rw [h2, h3, h4, h5, h6, h7], by rw [h3]; rfl, by rw [h4]; rfl, by rw [h5]; rfl, by rw [h6]; rfl, by rw [h7]; rfl, hn, r0, fun k j hk => ?_⟩
  match k, hk with
  | 1, _ => exact r1 j
  | 2, _ => exact r2 j
  | 3, _ => exact r3 j
  | k + 4, _ => exact r4 j
theorem upz_inI {f : Int → Int} {i x : Int} (h : ∀ j, inI (f j)) (hx : inI x) : ∀ j, inI (upz f i x j) := fun j => by unfold upz; split <;> first | exact hx | exact h j
theorem upz_inL {f : Int → Int} {i x : Int} (h : ∀ j, inL (f j)) (hx : inL x) : ∀ j, inL (upz f i x j) := fun j => by unfold upz; split <;> first | exact hx | exact h j

set_option maxRecDepth 100000 in
set_option maxHeartbeats 4000000 in
/-- bucketOf -/
theorem m_X6_bucketOf (g : pw_P) (l : Launch) {w : pw_W} {x y : Int} (hy : inI y) : pw_M g l yX6_bucketOf cX6_bucketOf 5 (some .int) { frames := 0, cells := 0, slots := 0, locals := 0 } [.long (lZ x), .int (iZ y)] w (fun r w' => w = w' ∧ r = some (.int (iZ (bkt x y)))) := by
  refine pw_M.of (by decide) (Nat.le_of_ble_eq_true rfl) rfl ?_
  intro p e s m args below meth c C hr hn
  refine pw_lload_n (i := 0) C dX6_bucketOf_0 rfl rfl ?_
  refine pw_ldc2 (z := (-7046029254386353131)) C kj_X6_98 (by decide) dX6_bucketOf_1 ?_
  refine pw_lmul C dX6_bucketOf_4 ?_
  refine pw_iload_n (i := 2) C dX6_bucketOf_5 rfl rfl ?_
  refine pw_i2l C (by omega) dX6_bucketOf_6 ?_
  refine pw_ladd C dX6_bucketOf_7 ?_
  refine pw_ldc2 (z := (-4658895280553007687)) C kj_X6_100 (by decide) dX6_bucketOf_8 ?_
  refine pw_lmul C dX6_bucketOf_11 ?_
  refine pw_lstore_n (i := 3) (lv' := [(0, .long (lZ x)), (2, .int (iZ y)), (3, .long (lZ (((x * (-7046029254386353131)) + y) * (-4658895280553007687))))]) C dX6_bucketOf_12 rfl (by decide) rfl ?_
  refine pw_lload_n (i := 3) C dX6_bucketOf_13 rfl rfl ?_
  refine pw_bipush C dX6_bucketOf_14 (by decide) ?_
  refine pw_lushr (z := bkt x y) C dX6_bucketOf_16 (Int64.ofInt_toInt _).symm ?_
  refine pw_l2i C dX6_bucketOf_17 ?_
  exact pw_iret C hr dX6_bucketOf_18 ⟨rfl, rfl⟩

set_option maxRecDepth 100000 in
set_option maxHeartbeats 4000000 in
/-- lengthOf -/
theorem m_X6_lengthOf (g : pw_P) (l : Launch) {w : pw_W} {cap : Nat} {σ : Nat → Int → Int} {n : Int} (hS : St g w cap σ n) {o : Int} (ho : inI o) : pw_M g l yX6_lengthOf cX6_lengthOf 4 (some .int) { frames := 2, cells := 0, slots := 0, locals := 42 } [.ref (w 2).1, .int (iZ o)] w (fun r w' => w = w' ∧ r = some (.int (iZ (sLen σ n o)))) := by
  refine pw_M.of (by decide) (Nat.le_of_ble_eq_true rfl) rfl ?_
  intro p e s m args below meth c C hr hn
  have hN := hS.rN
  have loop : ∀ (fu : Nat) (k q : Int), 0 ≤ k → k + fu = n + 1 → inI q → lenF σ n fu q k = sLen σ n o → pw_G g p l e { frames := 2, cells := 0, slots := 0, locals := 42 } s m args below meth c 4 (pw_Q g below (fun r w' => w = w' ∧ r = some (.int (iZ (sLen σ n o)))) args s { frames := 2, cells := 0, slots := 0, locals := 42 }) 0 0 4 [(0, .ref ((w 2).1)), (1, .int (iZ o)), (2, .int (iZ q)), (3, .int (iZ k))] [] w := by
    intro fu
    induction fu with
    | zero =>
      intro k q hk hf hq he
      refine pw_iload_n (i := 3) C dX6_lengthOf_4 rfl rfl ?_
      refine pw_aload_n (i := 0) C dX6_lengthOf_5 rfl rfl (Or.inr ⟨_, rfl⟩) ?_
      refine pw_get (j := 5) C cl_X6 fl_X6_67 (by decide) rfl hS.1 rfl dX6_lengthOf_6 ?_
      refine pw_icmp_gt (tgt := 40) C (by omega) (by omega) dX6_lengthOf_9 (by decide) (fun h_1 => ?_) (fun h_1 => ?_)
      · refine pw_iconst C dX6_lengthOf_40 ?_
        exact pw_iret C hr dX6_lengthOf_41 ⟨rfl, by rw [← he]; rfl⟩
      · exfalso; omega
    | succ fu ih =>
      intro k q hk hf hq he
      refine pw_iload_n (i := 3) C dX6_lengthOf_4 rfl rfl ?_
      refine pw_aload_n (i := 0) C dX6_lengthOf_5 rfl rfl (Or.inr ⟨_, rfl⟩) ?_
      refine pw_get (j := 5) C cl_X6 fl_X6_67 (by decide) rfl hS.1 rfl dX6_lengthOf_6 ?_
      refine pw_icmp_gt (tgt := 40) C (by omega) (by omega) dX6_lengthOf_9 (by decide) (fun h_101 => ?_) (fun h_101 => ?_)
      · exfalso; omega
      · refine pw_iload_n (i := 2) C dX6_lengthOf_12 rfl rfl ?_
        refine pw_if_ne (tgt := 18) C (by omega) dX6_lengthOf_13 (by decide) (fun h_102 => ?_) (fun h_102 => ?_)
        · refine pw_aload_n (i := 0) C dX6_lengthOf_18 rfl rfl (Or.inr ⟨_, rfl⟩) ?_
          refine pw_iload_n (i := 2) C dX6_lengthOf_19 rfl rfl ?_
          refine pw_callV (As := [.int (iZ q)]) (st := []) C (m_X6_isPair g l hS (o := q) (by omega)) my_X6_isPair ml_X6_81 (pw_rec.of C hS.1 cl_X6.1) rfl ⟨by decide, by decide⟩ ⟨Nat.le_of_ble_eq_true rfl, Nat.le_of_ble_eq_true rfl⟩ rfl (Nat.le_of_ble_eq_true rfl) dX6_lengthOf_20 ?_
          rintro _ _ ⟨rfl, rfl⟩
          refine pw_stk (st' := [.int (iZ (b2i (sP σ n q)))]) rfl ?_
          refine pw_if_neB (tgt := 28) C dX6_lengthOf_23 (by decide) (fun h_103 => ?_) (fun h_103 => ?_)
          · refine pw_aload_n (i := 0) C dX6_lengthOf_28 rfl rfl (Or.inr ⟨_, rfl⟩) ?_
            refine pw_iload_n (i := 2) C dX6_lengthOf_29 rfl rfl ?_
            refine pw_callV (As := [.int (iZ q)]) (st := []) C (m_X6_tail g l hS (o := q) (by omega)) my_X6_tail ml_X6_78 (pw_rec.of C hS.1 cl_X6.1) rfl ⟨by decide, by decide⟩ ⟨Nat.le_of_ble_eq_true rfl, Nat.le_of_ble_eq_true rfl⟩ rfl (Nat.le_of_ble_eq_true rfl) dX6_lengthOf_30 ?_
            rintro _ _ ⟨rfl, rfl⟩
            refine pw_stk (st' := [.int (iZ (sTl σ n q))]) rfl ?_
            refine pw_istore_n (i := 2) (lv' := [(0, .ref ((w 2).1)), (1, .int (iZ o)), (2, .int (iZ (sTl σ n q))), (3, .int (iZ k))]) C dX6_lengthOf_33 rfl (by decide) rfl ?_
            refine pw_iinc (lv' := [(0, .ref ((w 2).1)), (1, .int (iZ o)), (2, .int (iZ (sTl σ n q))), (3, .int (iZ (k + 1)))]) C dX6_lengthOf_34 rfl (by decide) rfl ?_
            refine pw_goto (tgt := 4) C dX6_lengthOf_37 (by decide) ?_
            exact ih (k + 1) (sTl σ n q) (by omega) (by omega) (sTl_in hS q) (by rw [← he]; simp_all [lenF])
          · refine pw_iconst C dX6_lengthOf_26 ?_
            exact pw_iret C hr dX6_lengthOf_27 ⟨rfl, by rw [← he]; simp_all [lenF]⟩
        · refine pw_iload_n (i := 3) C dX6_lengthOf_16 rfl rfl ?_
          exact pw_iret C hr dX6_lengthOf_17 ⟨rfl, by rw [← he]; simp_all [lenF]⟩
  refine pw_iload_n (i := 1) C dX6_lengthOf_0 rfl rfl ?_
  refine pw_istore_n (i := 2) (lv' := [(0, .ref ((w 2).1)), (1, .int (iZ o)), (2, .int (iZ o))]) C dX6_lengthOf_1 rfl (by decide) rfl ?_
  refine pw_iconst C dX6_lengthOf_2 ?_
  refine pw_istore_n (i := 3) (lv' := [(0, .ref ((w 2).1)), (1, .int (iZ o)), (2, .int (iZ o)), (3, .int (iZ 0))]) C dX6_lengthOf_3 rfl (by decide) rfl ?_
  exact loop (n + 1).toNat 0 o (by omega) (by omega) ho rfl

set_option maxRecDepth 100000 in
set_option maxHeartbeats 4000000 in
/-- isElement -/
theorem m_X6_isElement (g : pw_P) (l : Launch) {w : pw_W} {cap : Nat} {σ : Nat → Int → Int} {n : Int} (hS : St g w cap σ n) (hh : sHI σ n) {o t : Int} (ho : inI o) (ht : inI t) : pw_M g l yX6_isElement cX6_isElement 5 (some .boolean) { frames := 2, cells := 0, slots := 0, locals := 42 } [.ref (w 2).1, .int (iZ o), .int (iZ t)] w (fun r w' => w = w' ∧ r = some (.int (iZ (b2i (sEl σ n o t))))) := by
  refine pw_M.of (by decide) (Nat.le_of_ble_eq_true rfl) rfl ?_
  intro p e s m args below meth c C hr hn
  have hN := hS.rN
  have loop : ∀ (fu : Nat) (k q : Int), 0 ≤ k → k + fu = n → inI q → elF σ n o fu q = sEl σ n o t → pw_G g p l e { frames := 2, cells := 0, slots := 0, locals := 42 } s m args below meth c 5 (pw_Q g below (fun r w' => w = w' ∧ r = some (.int (iZ (b2i (sEl σ n o t))))) args s { frames := 2, cells := 0, slots := 0, locals := 42 }) 0 0 5 [(0, .ref ((w 2).1)), (1, .int (iZ o)), (2, .int (iZ t)), (3, .int (iZ q)), (4, .int (iZ k))] [] w := by
    intro fu
    induction fu with
    | zero =>
      intro k q hk hf hq he
      refine pw_iload C dX6_isElement_5 rfl ?_
      refine pw_aload_n (i := 0) C dX6_isElement_7 rfl rfl (Or.inr ⟨_, rfl⟩) ?_
      refine pw_get (j := 5) C cl_X6 fl_X6_67 (by decide) rfl hS.1 rfl dX6_isElement_8 ?_
      refine pw_icmp_ge (tgt := 45) C (by omega) (by omega) dX6_isElement_11 (by decide) (fun h_1 => ?_) (fun h_1 => ?_)
      · refine pw_iconst C dX6_isElement_45 ?_
        exact pw_zret C hr (by decide +kernel) dX6_isElement_46 ⟨rfl, by rw [← he]; rfl⟩
      · exfalso; omega
    | succ fu ih =>
      intro k q hk hf hq he
      have hq1 := sHd_in hS hh q
      refine pw_iload C dX6_isElement_5 rfl ?_
      refine pw_aload_n (i := 0) C dX6_isElement_7 rfl rfl (Or.inr ⟨_, rfl⟩) ?_
      refine pw_get (j := 5) C cl_X6 fl_X6_67 (by decide) rfl hS.1 rfl dX6_isElement_8 ?_
      refine pw_icmp_ge (tgt := 45) C (by omega) (by omega) dX6_isElement_11 (by decide) (fun h_101 => ?_) (fun h_101 => ?_)
      · exfalso; omega
      · refine pw_aload_n (i := 0) C dX6_isElement_14 rfl rfl (Or.inr ⟨_, rfl⟩) ?_
        refine pw_iload_n (i := 3) C dX6_isElement_15 rfl rfl ?_
        refine pw_callV (As := [.int (iZ q)]) (st := []) C (m_X6_isPair g l hS (o := q) (by omega)) my_X6_isPair ml_X6_81 (pw_rec.of C hS.1 cl_X6.1) rfl ⟨by decide, by decide⟩ ⟨Nat.le_of_ble_eq_true rfl, Nat.le_of_ble_eq_true rfl⟩ rfl (Nat.le_of_ble_eq_true rfl) dX6_isElement_16 ?_
        rintro _ _ ⟨rfl, rfl⟩
        refine pw_stk (st' := [.int (iZ (b2i (sP σ n q)))]) rfl ?_
        refine pw_if_eqB (tgt := 45) C dX6_isElement_19 (by decide) (fun h_102 => ?_) (fun h_102 => ?_)
        · refine pw_iconst C dX6_isElement_45 ?_
          exact pw_zret C hr (by decide +kernel) dX6_isElement_46 ⟨rfl, by rw [← he]; simp_all [elF, b2i]⟩
        · refine pw_aload_n (i := 0) C dX6_isElement_22 rfl rfl (Or.inr ⟨_, rfl⟩) ?_
          refine pw_iload_n (i := 3) C dX6_isElement_23 rfl rfl ?_
          refine pw_callV (As := [.int (iZ q)]) (st := []) C (m_X6_head g l hS (o := q) (by omega)) my_X6_head ml_X6_75 (pw_rec.of C hS.1 cl_X6.1) rfl ⟨by decide, by decide⟩ ⟨Nat.le_of_ble_eq_true rfl, Nat.le_of_ble_eq_true rfl⟩ rfl (Nat.le_of_ble_eq_true rfl) dX6_isElement_24 ?_
          rintro _ _ ⟨rfl, rfl⟩
          refine pw_stk (st' := [.int (iZ (sHd σ n q))]) rfl ?_
          refine pw_iload_n (i := 1) C dX6_isElement_27 rfl rfl ?_
          refine pw_icmp_ne (tgt := 33) C (by omega) (by omega) dX6_isElement_28 (by decide) (fun h_103 => ?_) (fun h_103 => ?_)
          · refine pw_aload_n (i := 0) C dX6_isElement_33 rfl rfl (Or.inr ⟨_, rfl⟩) ?_
            refine pw_iload_n (i := 3) C dX6_isElement_34 rfl rfl ?_
            refine pw_callV (As := [.int (iZ q)]) (st := []) C (m_X6_tail g l hS (o := q) (by omega)) my_X6_tail ml_X6_78 (pw_rec.of C hS.1 cl_X6.1) rfl ⟨by decide, by decide⟩ ⟨Nat.le_of_ble_eq_true rfl, Nat.le_of_ble_eq_true rfl⟩ rfl (Nat.le_of_ble_eq_true rfl) dX6_isElement_35 ?_
            rintro _ _ ⟨rfl, rfl⟩
            refine pw_stk (st' := [.int (iZ (sTl σ n q))]) rfl ?_
            refine pw_istore_n (i := 3) (lv' := [(0, .ref ((w 2).1)), (1, .int (iZ o)), (2, .int (iZ t)), (3, .int (iZ (sTl σ n q))), (4, .int (iZ k))]) C dX6_isElement_38 rfl (by decide) rfl ?_
            refine pw_iinc (lv' := [(0, .ref ((w 2).1)), (1, .int (iZ o)), (2, .int (iZ t)), (3, .int (iZ (sTl σ n q))), (4, .int (iZ (k + 1)))]) C dX6_isElement_39 rfl (by decide) rfl ?_
            refine pw_goto (tgt := 5) C dX6_isElement_42 (by decide) ?_
            exact ih (k + 1) (sTl σ n q) (by omega) (by omega) (sTl_in hS q) (by rw [← he]; simp_all [elF])
          · refine pw_iconst C dX6_isElement_31 ?_
            exact pw_zret C hr (by decide +kernel) dX6_isElement_32 ⟨rfl, by rw [← he]; simp_all [elF, b2i]⟩
  refine pw_iload_n (i := 2) C dX6_isElement_0 rfl rfl ?_
  refine pw_istore_n (i := 3) (lv' := [(0, .ref ((w 2).1)), (1, .int (iZ o)), (2, .int (iZ t)), (3, .int (iZ t))]) C dX6_isElement_1 rfl (by decide) rfl ?_
  refine pw_iconst C dX6_isElement_2 ?_
  refine pw_istore (lv' := [(0, .ref ((w 2).1)), (1, .int (iZ o)), (2, .int (iZ t)), (3, .int (iZ t)), (4, .int (iZ 0))]) C dX6_isElement_3 (by decide) rfl ?_
  exact loop n.toNat 0 t (by omega) (by omega) ht rfl

/-- what hold has done: the object was there, or it is the newest now -/
def sHold (g : pw_P) (w w' : pw_W) (cap : Nat) (σ : Nat → Int → Int) (n a b h : Int) (r : Option Value) : Prop :=
  (∃ j : Int, 0 ≤ j ∧ j < n ∧ σ 0 j = a ∧ σ 1 j = b ∧ r = some (.int (iZ j)) ∧ w = w') ∨
  ((∀ m : Int, 0 ≤ m → m < n → ¬ (σ 0 m = a ∧ σ 1 m = b)) ∧ r = some (.int (iZ n)) ∧ St g w' cap (sM (upz (σ 0) n a) (upz (σ 1) n b) (upz (σ 2) n h) (upz (σ 3) n (σ 4 (bkt a b))) (upz (σ 4) (bkt a b) n)) (n + 1) ∧ (w' 2).1 = (w 2).1 ∧ ∀ k, (k < 2 ∨ 7 < k) → w' k = w k)
set_option maxRecDepth 100000 in
set_option maxHeartbeats 4000000 in
/-- hold -/
theorem m_X6_hold (g : pw_P) (l : Launch) {w : pw_W} {cap : Nat} {σ : Nat → Int → Int} {n : Int} (hS : St g w cap σ n) (hC : sC σ n) (hcap : n < cap) {a b h : Int} (ha : inL a) (hb : inI b) (hh : inI h) : pw_M g l yX6_hold cX6_hold 8 (some .int) { frames := 1, cells := 0, slots := 0, locals := 24 } [.ref (w 2).1, .long (lZ a), .int (iZ b), .int (iZ h)] w (fun r w' => sHold g w w' cap σ n a b h r) := by
  refine pw_M.of (by decide) (Nat.le_of_ble_eq_true rfl) rfl ?_
  intro p e s m args below meth c C hr hn
  have hN := hS.rN
  have hbk := bkt_in a b
  have tail : ∀ (k q : Int), (∀ m : Int, 0 ≤ m → m < n → ¬ (σ 0 m = a ∧ σ 1 m = b)) → pw_G g p l e { frames := 1, cells := 0, slots := 0, locals := 24 } s m args below meth c 8 (pw_Q g below (fun r w' => sHold g w w' cap σ n a b h r) args s { frames := 1, cells := 0, slots := 0, locals := 24 }) 0 0 83 [(0, .ref ((w 2).1)), (1, .long (lZ a)), (3, .int (iZ b)), (4, .int (iZ h)), (5, .int (iZ (bkt a b))), (6, .int (iZ q)), (7, .int (iZ k))] [] w := by
    intro k q hno
    refine pw_aload_n (i := 0) C dX6_hold_83 rfl rfl (Or.inr ⟨_, rfl⟩) ?_
    refine pw_get (j := 5) C cl_X6 fl_X6_67 (by decide) rfl hS.1 rfl dX6_hold_84 ?_
    refine pw_aload_n (i := 0) C dX6_hold_87 rfl rfl (Or.inr ⟨_, rfl⟩) ?_
    refine pw_get (j := 1) C cl_X6 fl_X6_15 (by decide) rfl hS.1 rfl dX6_hold_88 ?_
    refine pw_alen (t := 0) C hS.2.2.1 rfl dX6_hold_91 ?_
    refine pw_icmp_lt (tgt := 97) C (by omega) (by omega) dX6_hold_92 (by decide) (fun h_501 => ?_) (fun h_501 => ?_)
    · refine pw_aload_n (i := 0) C dX6_hold_97 rfl rfl (Or.inr ⟨_, rfl⟩) ?_
      refine pw_get (j := 0) C cl_X6 fl_X6_11 (by decide) rfl hS.1 rfl dX6_hold_98 ?_
      refine pw_aload_n (i := 0) C dX6_hold_101 rfl rfl (Or.inr ⟨_, rfl⟩) ?_
      refine pw_get (j := 5) C cl_X6 fl_X6_67 (by decide) rfl hS.1 rfl dX6_hold_102 ?_
      refine pw_lload_n (i := 1) C dX6_hold_105 rfl rfl ?_
      refine pw_last C hS.2.1 ⟨by omega, by omega, by omega⟩ dX6_hold_106 (fun w_504 k_502 o_503 => ?_)
      refine pw_aload_n (i := 0) C dX6_hold_107 rfl rfl (Or.inr ⟨_, rfl⟩) ?_
      have c_505 := (o_503 2 (by decide)).trans hS.1
      refine pw_get (j := 1) C cl_X6 fl_X6_15 (by decide) rfl c_505 rfl dX6_hold_108 ?_
      refine pw_aload_n (i := 0) C dX6_hold_111 rfl rfl (Or.inr ⟨_, rfl⟩) ?_
      refine pw_get (j := 5) C cl_X6 fl_X6_67 (by decide) rfl c_505 rfl dX6_hold_112 ?_
      refine pw_iload_n (i := 3) C dX6_hold_115 rfl rfl ?_
      have c_506 := (o_503 4 (by decide)).trans hS.2.2.1
      refine pw_iast C c_506 ⟨by omega, by omega, by omega⟩ dX6_hold_116 (fun w_509 k_507 o_508 => ?_)
      refine pw_aload_n (i := 0) C dX6_hold_117 rfl rfl (Or.inr ⟨_, rfl⟩) ?_
      have c_510 := (o_508 2 (by decide)).trans c_505
      refine pw_get (j := 2) C cl_X6 fl_X6_19 (by decide) rfl c_510 rfl dX6_hold_118 ?_
      refine pw_aload_n (i := 0) C dX6_hold_121 rfl rfl (Or.inr ⟨_, rfl⟩) ?_
      refine pw_get (j := 5) C cl_X6 fl_X6_67 (by decide) rfl c_510 rfl dX6_hold_122 ?_
      refine pw_iload C dX6_hold_125 rfl ?_
      have c_511 := ((o_508 5 (by decide)).trans (o_503 5 (by decide))).trans hS.2.2.2.1
      refine pw_iast C c_511 ⟨by omega, by omega, by omega⟩ dX6_hold_127 (fun w_514 k_512 o_513 => ?_)
      refine pw_aload_n (i := 0) C dX6_hold_128 rfl rfl (Or.inr ⟨_, rfl⟩) ?_
      have c_515 := (o_513 2 (by decide)).trans c_510
      refine pw_get (j := 3) C cl_X6 fl_X6_22 (by decide) rfl c_515 rfl dX6_hold_129 ?_
      refine pw_aload_n (i := 0) C dX6_hold_132 rfl rfl (Or.inr ⟨_, rfl⟩) ?_
      refine pw_get (j := 5) C cl_X6 fl_X6_67 (by decide) rfl c_515 rfl dX6_hold_133 ?_
      refine pw_aload_n (i := 0) C dX6_hold_136 rfl rfl (Or.inr ⟨_, rfl⟩) ?_
      refine pw_get (j := 4) C cl_X6 fl_X6_25 (by decide) rfl c_515 rfl dX6_hold_137 ?_
      refine pw_iload C dX6_hold_140 rfl ?_
      have c_516 := ((o_513 7 (by decide)).trans ((o_508 7 (by decide)).trans (o_503 7 (by decide)))).trans hS.2.2.2.2.2.1
      have g_517 := (hS.rI 4 (by decide)) (bkt a b)
      refine pw_iald C c_516 ⟨by omega, by omega, by omega⟩ dX6_hold_142 ?_
      have c_518 := ((o_513 6 (by decide)).trans ((o_508 6 (by decide)).trans (o_503 6 (by decide)))).trans hS.2.2.2.2.1
      refine pw_iast C c_518 ⟨by omega, by omega, by omega⟩ dX6_hold_143 (fun w_521 k_519 o_520 => ?_)
      refine pw_aload_n (i := 0) C dX6_hold_144 rfl rfl (Or.inr ⟨_, rfl⟩) ?_
      have c_522 := (o_520 2 (by decide)).trans c_515
      refine pw_get (j := 4) C cl_X6 fl_X6_25 (by decide) rfl c_522 rfl dX6_hold_145 ?_
      refine pw_iload C dX6_hold_148 rfl ?_
      refine pw_aload_n (i := 0) C dX6_hold_150 rfl rfl (Or.inr ⟨_, rfl⟩) ?_
      refine pw_get (j := 5) C cl_X6 fl_X6_67 (by decide) rfl c_522 rfl dX6_hold_151 ?_
      have c_523 := (o_520 7 (by decide)).trans c_516
      refine pw_iast C c_523 ⟨by omega, by omega, by omega⟩ dX6_hold_154 (fun w_526 k_524 o_525 => ?_)
      refine pw_aload_n (i := 0) C dX6_hold_155 rfl rfl (Or.inr ⟨_, rfl⟩) ?_
      refine pw_dup C dX6_hold_156 rfl ?_
      have c_527 := (o_525 2 (by decide)).trans c_522
      refine pw_get (j := 5) C cl_X6 fl_X6_67 (by decide) rfl c_527 rfl dX6_hold_157 ?_
      refine pw_dup_x1 C dX6_hold_160 rfl rfl ?_
      refine pw_iconst C dX6_hold_161 ?_
      refine pw_iadd C dX6_hold_162 ?_
      refine pw_put (j := 5) C cl_X6 fl_X6_67 (by decide) rfl rfl rfl rfl rfl c_527 (Nat.le_of_ble_eq_true rfl) dX6_hold_163 (fun w_530 k_528 o_529 => ?_)
      have k_531 : w_530 2 = ((w 2).1, some (OB 6 [.ref ((w 3).1), .ref ((w 4).1), .ref ((w 5).1), .ref ((w 6).1), .ref ((w 7).1), .int (iZ (n + 1))])) := k_528
      have c_532 := ((o_529 3 (by decide)).trans ((o_525 3 (by decide)).trans ((o_520 3 (by decide)).trans ((o_513 3 (by decide)).trans (o_508 3 (by decide)))))).trans k_502
      have c_533 := ((o_529 4 (by decide)).trans ((o_525 4 (by decide)).trans ((o_520 4 (by decide)).trans (o_513 4 (by decide))))).trans k_507
      have c_534 := ((o_529 5 (by decide)).trans ((o_525 5 (by decide)).trans (o_520 5 (by decide)))).trans k_512
      have c_535 := ((o_529 6 (by decide)).trans (o_525 6 (by decide))).trans k_519
      have c_536 := (o_529 7 (by decide)).trans k_524
      refine pw_iret C hr dX6_hold_166 (Or.inr ⟨fun m h1 h2 => ?_, rfl, St.mk' k_531 c_532 c_533 c_534 c_535 c_536 (by omega) (upz_inL hS.rL ha) (upz_inI (hS.rI 1 (by decide)) hb) (upz_inI (hS.rI 2 (by decide)) hh) (upz_inI (hS.rI 3 (by decide)) (hS.rI 4 (by decide) _)) (upz_inI (hS.rI 4 (by decide)) (by omega)), by rw [k_531], fun k hk => (o_529 k (by omega)).trans ((o_525 k (by omega)).trans ((o_520 k (by omega)).trans ((o_513 k (by omega)).trans ((o_508 k (by omega)).trans (o_503 k (by omega))))))⟩)
      exact hno m h1 h2
    · exfalso; omega
  have loop : ∀ (j : Nat) (k q : Int), 0 ≤ k → k + j ≤ n → q = lst σ (bkt a b) j → (∀ m : Int, (j : Int) ≤ m → m < n → 0 ≤ m → ¬ (σ 0 m = a ∧ σ 1 m = b)) → pw_G g p l e { frames := 1, cells := 0, slots := 0, locals := 24 } s m args below meth c 8 (pw_Q g below (fun r w' => sHold g w w' cap σ n a b h r) args s { frames := 1, cells := 0, slots := 0, locals := 24 }) 0 0 19 [(0, .ref ((w 2).1)), (1, .long (lZ a)), (3, .int (iZ b)), (4, .int (iZ h)), (5, .int (iZ (bkt a b))), (6, .int (iZ q)), (7, .int (iZ k))] [] w := by
    intro j
    induction j using Nat.strongRecOn with
    | ind j ih =>
    intro k q hk hf hq hno
    have hl0 := lst_in σ (bkt a b) j
    refine pw_iload C dX6_hold_19 rfl ?_
    refine pw_aload_n (i := 0) C dX6_hold_21 rfl rfl (Or.inr ⟨_, rfl⟩) ?_
    refine pw_get (j := 5) C cl_X6 fl_X6_67 (by decide) rfl hS.1 rfl dX6_hold_22 ?_
    refine pw_icmp_ge (tgt := 83) C (by omega) (by omega) dX6_hold_25 (by decide) (fun h_101 => ?_) (fun h_101 => ?_)
    · have hl := lst_in σ (bkt a b) j
      refine tail k q (fun m h1 h2 => ?_)
      by_cases hmj : m < j
      · have := lst_no σ (bkt a b) j m (by omega) hmj h1
        rintro ⟨e1, e2⟩
        rw [e1, e2] at this
        exact this rfl
      · exact hno m (by omega) h2 h1
    · refine pw_iload C dX6_hold_28 rfl ?_
      refine pw_if_lt (tgt := 83) C (by omega) dX6_hold_30 (by decide) (fun h_102 => ?_) (fun h_102 => ?_)
      · have hl := lst_in σ (bkt a b) j
        refine tail k q (fun m h1 h2 => ?_)
        by_cases hmj : m < j
        · have := lst_no σ (bkt a b) j m (by omega) hmj h1
          rintro ⟨e1, e2⟩
          rw [e1, e2] at this
          exact this rfl
        · exact hno m (by omega) h2 h1
      · refine pw_iload C dX6_hold_33 rfl ?_
        refine pw_aload_n (i := 0) C dX6_hold_35 rfl rfl (Or.inr ⟨_, rfl⟩) ?_
        refine pw_get (j := 5) C cl_X6 fl_X6_67 (by decide) rfl hS.1 rfl dX6_hold_36 ?_
        refine pw_icmp_ge (tgt := 83) C (by omega) (by omega) dX6_hold_39 (by decide) (fun h_103 => ?_) (fun h_103 => ?_)
        · have hl := lst_in σ (bkt a b) j
          refine tail k q (fun m h1 h2 => ?_)
          by_cases hmj : m < j
          · have := lst_no σ (bkt a b) j m (by omega) hmj h1
            rintro ⟨e1, e2⟩
            rw [e1, e2] at this
            exact this rfl
          · exact hno m (by omega) h2 h1
        · refine pw_aload_n (i := 0) C dX6_hold_42 rfl rfl (Or.inr ⟨_, rfl⟩) ?_
          refine pw_get (j := 0) C cl_X6 fl_X6_11 (by decide) rfl hS.1 rfl dX6_hold_43 ?_
          refine pw_iload C dX6_hold_46 rfl ?_
          have g_104 := (hS.rL) q
          refine pw_lald C hS.2.1 ⟨by omega, by omega, by omega⟩ dX6_hold_48 ?_
          refine pw_lload_n (i := 1) C dX6_hold_49 rfl rfl ?_
          refine pw_lcmp C (by omega) (by omega) dX6_hold_50 ?_
          refine pw_if_ne (tgt := 68) C (cmpZ_in _ _) dX6_hold_51 (by decide) (fun h_105 => ?_) (fun h_105 => ?_)
          · have h_105 := cmpZ_ne1 h_105
            refine pw_aload_n (i := 0) C dX6_hold_68 rfl rfl (Or.inr ⟨_, rfl⟩) ?_
            refine pw_get (j := 3) C cl_X6 fl_X6_22 (by decide) rfl hS.1 rfl dX6_hold_69 ?_
            refine pw_iload C dX6_hold_72 rfl ?_
            have g_106 := (hS.rI 3 (by decide)) q
            refine pw_iald C hS.2.2.2.2.1 ⟨by omega, by omega, by omega⟩ dX6_hold_74 ?_
            refine pw_istore (lv' := [(0, .ref ((w 2).1)), (1, .long (lZ a)), (3, .int (iZ b)), (4, .int (iZ h)), (5, .int (iZ (bkt a b))), (6, .int (iZ ((σ 3) q))), (7, .int (iZ k))]) C dX6_hold_75 (by decide) rfl ?_
            refine pw_iinc (lv' := [(0, .ref ((w 2).1)), (1, .long (lZ a)), (3, .int (iZ b)), (4, .int (iZ h)), (5, .int (iZ (bkt a b))), (6, .int (iZ ((σ 3) q))), (7, .int (iZ (k + 1)))]) C dX6_hold_77 rfl (by decide) rfl ?_
            refine pw_goto (tgt := 19) C dX6_hold_80 (by decide) ?_
            have hl := lst_in σ (bkt a b) j
            have hb' := lst_is σ (bkt a b) j (by omega)
            rw [← hq] at hb'
            have hnx := hC.2 q (by omega) (by omega)
            rw [hb'] at hnx
            refine ih q.toNat (by omega) (k + 1) (σ 3 q) (by omega) (by omega) hnx (fun m h1 h2 h3 => ?_)
            by_cases hmq : m = q
            · subst hmq; omega
            · by_cases hmj : m < j
              · have := lst_no σ (bkt a b) j m (by omega) hmj (by omega)
                rintro ⟨e1, e2⟩
                rw [e1, e2] at this
                exact this rfl
              · exact hno m (by omega) h2 h3
          · have h_105 := cmpZ_eq1 h_105
            refine pw_aload_n (i := 0) C dX6_hold_54 rfl rfl (Or.inr ⟨_, rfl⟩) ?_
            refine pw_get (j := 1) C cl_X6 fl_X6_15 (by decide) rfl hS.1 rfl dX6_hold_55 ?_
            refine pw_iload C dX6_hold_58 rfl ?_
            have g_107 := (hS.rI 1 (by decide)) q
            refine pw_iald C hS.2.2.1 ⟨by omega, by omega, by omega⟩ dX6_hold_60 ?_
            refine pw_iload_n (i := 3) C dX6_hold_61 rfl rfl ?_
            refine pw_icmp_ne (tgt := 68) C (by omega) (by omega) dX6_hold_62 (by decide) (fun h_108 => ?_) (fun h_108 => ?_)
            · refine pw_aload_n (i := 0) C dX6_hold_68 rfl rfl (Or.inr ⟨_, rfl⟩) ?_
              refine pw_get (j := 3) C cl_X6 fl_X6_22 (by decide) rfl hS.1 rfl dX6_hold_69 ?_
              refine pw_iload C dX6_hold_72 rfl ?_
              have g_109 := (hS.rI 3 (by decide)) q
              refine pw_iald C hS.2.2.2.2.1 ⟨by omega, by omega, by omega⟩ dX6_hold_74 ?_
              refine pw_istore (lv' := [(0, .ref ((w 2).1)), (1, .long (lZ a)), (3, .int (iZ b)), (4, .int (iZ h)), (5, .int (iZ (bkt a b))), (6, .int (iZ ((σ 3) q))), (7, .int (iZ k))]) C dX6_hold_75 (by decide) rfl ?_
              refine pw_iinc (lv' := [(0, .ref ((w 2).1)), (1, .long (lZ a)), (3, .int (iZ b)), (4, .int (iZ h)), (5, .int (iZ (bkt a b))), (6, .int (iZ ((σ 3) q))), (7, .int (iZ (k + 1)))]) C dX6_hold_77 rfl (by decide) rfl ?_
              refine pw_goto (tgt := 19) C dX6_hold_80 (by decide) ?_
              have hl := lst_in σ (bkt a b) j
              have hb' := lst_is σ (bkt a b) j (by omega)
              rw [← hq] at hb'
              have hnx := hC.2 q (by omega) (by omega)
              rw [hb'] at hnx
              refine ih q.toNat (by omega) (k + 1) (σ 3 q) (by omega) (by omega) hnx (fun m h1 h2 h3 => ?_)
              by_cases hmq : m = q
              · subst hmq; omega
              · by_cases hmj : m < j
                · have := lst_no σ (bkt a b) j m (by omega) hmj (by omega)
                  rintro ⟨e1, e2⟩
                  rw [e1, e2] at this
                  exact this rfl
                · exact hno m (by omega) h2 h3
            · refine pw_iload C dX6_hold_65 rfl ?_
              exact pw_iret C hr dX6_hold_67 (Or.inl ⟨q, by omega, by omega, by omega, by omega, rfl, rfl⟩)
  refine pw_lload_n (i := 1) C dX6_hold_0 rfl rfl ?_
  refine pw_iload_n (i := 3) C dX6_hold_1 rfl rfl ?_
  refine pw_callS (As := [.long (lZ a), .int (iZ b)]) (st := []) C (m_X6_bucketOf g l (x := a) (y := b) (by omega)) my_X6_bucketOf ml_X6_94 rfl ⟨by decide, by decide⟩ ⟨Nat.le_of_ble_eq_true rfl, Nat.le_of_ble_eq_true rfl⟩ rfl (Nat.le_of_ble_eq_true rfl) dX6_hold_2 ?_
  rintro _ _ ⟨rfl, rfl⟩
  refine pw_stk (st' := [.int (iZ (bkt a b))]) rfl ?_
  have b_301 := bkt_in a b
  refine pw_istore (lv' := [(0, .ref ((w 2).1)), (1, .long (lZ a)), (3, .int (iZ b)), (4, .int (iZ h)), (5, .int (iZ (bkt a b)))]) C dX6_hold_5 (by decide) rfl ?_
  refine pw_aload_n (i := 0) C dX6_hold_7 rfl rfl (Or.inr ⟨_, rfl⟩) ?_
  refine pw_get (j := 4) C cl_X6 fl_X6_25 (by decide) rfl hS.1 rfl dX6_hold_8 ?_
  refine pw_iload C dX6_hold_11 rfl ?_
  have g_302 := (hS.rI 4 (by decide)) (bkt a b)
  refine pw_iald C hS.2.2.2.2.2.1 ⟨by omega, by omega, by omega⟩ dX6_hold_13 ?_
  refine pw_istore (lv' := [(0, .ref ((w 2).1)), (1, .long (lZ a)), (3, .int (iZ b)), (4, .int (iZ h)), (5, .int (iZ (bkt a b))), (6, .int (iZ ((σ 4) (bkt a b))))]) C dX6_hold_14 (by decide) rfl ?_
  refine pw_iconst C dX6_hold_16 ?_
  refine pw_istore (lv' := [(0, .ref ((w 2).1)), (1, .long (lZ a)), (3, .int (iZ b)), (4, .int (iZ h)), (5, .int (iZ (bkt a b))), (6, .int (iZ ((σ 4) (bkt a b)))), (7, .int (iZ 0))]) C dX6_hold_17 (by decide) rfl ?_
  exact loop n.toNat 0 (σ 4 (bkt a b)) (by omega) (by omega) (hC.1 _ (bkt_in a b).1 (bkt_in a b).2) (fun m h1 h2 h3 => by omega)

set_option maxRecDepth 100000 in
set_option maxHeartbeats 4000000 in
/-- natural -/
theorem m_X6_natural (g : pw_P) (l : Launch) {w : pw_W} {cap : Nat} {σ : Nat → Int → Int} {n : Int} (hS : St g w cap σ n) (hC : sC σ n) (hcap : n < cap) {a : Int} (ha : inL a) : pw_M g l yX6_natural cX6_natural 3 (some .int) { frames := 2, cells := 0, slots := 0, locals := 51 } [.ref (w 2).1, .long (lZ a)] w (fun r w' => sHold g w w' cap σ n a (-1) 0 r) := by
  refine pw_M.of (by decide) (Nat.le_of_ble_eq_true rfl) rfl ?_
  intro p e s m args below meth c C hr hn
  have hN := hS.rN
  refine pw_aload_n (i := 0) C dX6_natural_0 rfl rfl (Or.inr ⟨_, rfl⟩) ?_
  refine pw_lload_n (i := 1) C dX6_natural_1 rfl rfl ?_
  refine pw_iconst C dX6_natural_2 ?_
  refine pw_iconst C dX6_natural_3 ?_
  refine pw_callV (As := [.long (lZ a), .int (iZ (-1)), .int (iZ 0)]) (st := []) C (m_X6_hold g l hS hC hcap (a := a) (b := (-1)) (h := 0) (by omega) (by omega) (by omega)) my_X6_hold ml_X6_54 (pw_rec.of C hS.1 cl_X6.1) rfl ⟨by decide, by decide⟩ ⟨Nat.le_of_ble_eq_true rfl, Nat.le_of_ble_eq_true rfl⟩ rfl (Nat.le_of_ble_eq_true rfl) dX6_natural_4 ?_
  intro r w' hp
  obtain ⟨z, rfl⟩ : ∃ z, r = some (.int (iZ z)) := by rcases hp with ⟨j, -, -, -, -, rfl, -⟩ | ⟨-, rfl, -⟩ <;> exact ⟨_, rfl⟩
  refine pw_stk (st' := [.int (iZ z)]) rfl ?_
  exact pw_iret C hr dX6_natural_7 hp

set_option maxRecDepth 100000 in
set_option maxHeartbeats 4000000 in
/-- symbol -/
theorem m_X6_symbol (g : pw_P) (l : Launch) {w : pw_W} {cap : Nat} {σ : Nat → Int → Int} {n : Int} (hS : St g w cap σ n) (hC : sC σ n) (hcap : n < cap) {a : Int} (ha : inL a) : pw_M g l yX6_symbol cX6_symbol 3 (some .int) { frames := 2, cells := 0, slots := 0, locals := 51 } [.ref (w 2).1, .long (lZ a)] w (fun r w' => sHold g w w' cap σ n a (-2) 0 r) := by
  refine pw_M.of (by decide) (Nat.le_of_ble_eq_true rfl) rfl ?_
  intro p e s m args below meth c C hr hn
  have hN := hS.rN
  refine pw_aload_n (i := 0) C dX6_symbol_0 rfl rfl (Or.inr ⟨_, rfl⟩) ?_
  refine pw_lload_n (i := 1) C dX6_symbol_1 rfl rfl ?_
  refine pw_bipush C dX6_symbol_2 (by decide) ?_
  refine pw_iconst C dX6_symbol_4 ?_
  refine pw_callV (As := [.long (lZ a), .int (iZ (-2)), .int (iZ 0)]) (st := []) C (m_X6_hold g l hS hC hcap (a := a) (b := (-2)) (h := 0) (by omega) (by omega) (by omega)) my_X6_hold ml_X6_54 (pw_rec.of C hS.1 cl_X6.1) rfl ⟨by decide, by decide⟩ ⟨Nat.le_of_ble_eq_true rfl, Nat.le_of_ble_eq_true rfl⟩ rfl (Nat.le_of_ble_eq_true rfl) dX6_symbol_5 ?_
  intro r w' hp
  obtain ⟨z, rfl⟩ : ∃ z, r = some (.int (iZ z)) := by rcases hp with ⟨j, -, -, -, -, rfl, -⟩ | ⟨-, rfl, -⟩ <;> exact ⟨_, rfl⟩
  refine pw_stk (st' := [.int (iZ z)]) rfl ?_
  exact pw_iret C hr dX6_symbol_8 hp

def sMx (x z : Int) : Int := if x < z then z else x
theorem sMx_in {x z : Int} (hx : 0 ≤ x ∧ x < 1000000) (hz : 0 ≤ z ∧ z < 1000000) : 0 ≤ sMx x z ∧ sMx x z < 1000000 := by unfold sMx; split <;> omega
set_option maxRecDepth 100000 in
set_option maxHeartbeats 4000000 in
/-- pair -/
theorem m_X6_pair (g : pw_P) (l : Launch) {w : pw_W} {cap : Nat} {σ : Nat → Int → Int} {n : Int} (hS : St g w cap σ n) (hC : sC σ n) (hcap : n < cap) {x y : Int} (hx : inI x) (hy : inI y) (hx2 : 0 ≤ sHt σ n x ∧ sHt σ n x < 1000000) (hy2 : 0 ≤ sHt σ n y ∧ sHt σ n y < 1000000) : pw_M g l yX6_pair cX6_pair 3 (some .int) { frames := 2, cells := 0, slots := 0, locals := 51 } [.ref (w 2).1, .int (iZ x), .int (iZ y)] w (fun r w' => sHold g w w' cap σ n x y (sMx (sHt σ n x) (sHt σ n y) + 1) r) := by
  refine pw_M.of (by decide) (Nat.le_of_ble_eq_true rfl) rfl ?_
  intro p e s m args below meth c C hr hn
  have hN := hS.rN
  have hmx := sMx_in hx2 hy2
  refine pw_aload_n (i := 0) C dX6_pair_0 rfl rfl (Or.inr ⟨_, rfl⟩) ?_
  refine pw_iload_n (i := 1) C dX6_pair_1 rfl rfl ?_
  refine pw_i2l C (by omega) dX6_pair_2 ?_
  refine pw_iload_n (i := 2) C dX6_pair_3 rfl rfl ?_
  refine pw_aload_n (i := 0) C dX6_pair_4 rfl rfl (Or.inr ⟨_, rfl⟩) ?_
  refine pw_iload_n (i := 1) C dX6_pair_5 rfl rfl ?_
  refine pw_callV (As := [.int (iZ x)]) (st := [.int (iZ y), .long (lZ x), .ref ((w 2).1)]) C (m_X6_heightOf g l hS (o := x) (by omega)) my_X6_heightOf ml_X6_58 (pw_rec.of C hS.1 cl_X6.1) rfl ⟨by decide, by decide⟩ ⟨Nat.le_of_ble_eq_true rfl, Nat.le_of_ble_eq_true rfl⟩ rfl (Nat.le_of_ble_eq_true rfl) dX6_pair_6 ?_
  rintro _ _ ⟨rfl, rfl⟩
  refine pw_stk (st' := [.int (iZ (sHt σ n x)), .int (iZ y), .long (lZ x), .ref ((w 2).1)]) rfl ?_
  refine pw_aload_n (i := 0) C dX6_pair_9 rfl rfl (Or.inr ⟨_, rfl⟩) ?_
  refine pw_iload_n (i := 2) C dX6_pair_10 rfl rfl ?_
  refine pw_callV (As := [.int (iZ y)]) (st := [.int (iZ (sHt σ n x)), .int (iZ y), .long (lZ x), .ref ((w 2).1)]) C (m_X6_heightOf g l hS (o := y) (by omega)) my_X6_heightOf ml_X6_58 (pw_rec.of C hS.1 cl_X6.1) rfl ⟨by decide, by decide⟩ ⟨Nat.le_of_ble_eq_true rfl, Nat.le_of_ble_eq_true rfl⟩ rfl (Nat.le_of_ble_eq_true rfl) dX6_pair_11 ?_
  rintro _ _ ⟨rfl, rfl⟩
  refine pw_stk (st' := [.int (iZ (sHt σ n y)), .int (iZ (sHt σ n x)), .int (iZ y), .long (lZ x), .ref ((w 2).1)]) rfl ?_
  refine pw_max C (x := sHt σ n x) (z := sHt σ n y) (by omega) (by omega) ml_X6_61 ma_max_s ma_i ma_max_c (by decide) (Nat.le_of_ble_eq_true rfl) ⟨by decide, by decide⟩ dX6_pair_14 ?_
  refine pw_stk (st' := [.int (iZ (sMx (sHt σ n x) (sHt σ n y))), .int (iZ y), .long (lZ x), .ref ((w 2).1)]) rfl ?_
  refine pw_iconst C dX6_pair_17 ?_
  refine pw_iadd C dX6_pair_18 ?_
  refine pw_callV (As := [.long (lZ x), .int (iZ y), .int (iZ (sMx (sHt σ n x) (sHt σ n y) + 1))]) (st := []) C (m_X6_hold g l hS hC hcap (a := x) (b := y) (h := (sMx (sHt σ n x) (sHt σ n y) + 1)) (by omega) (by omega) (by omega)) my_X6_hold ml_X6_54 (pw_rec.of C hS.1 cl_X6.1) rfl ⟨by decide, by decide⟩ ⟨Nat.le_of_ble_eq_true rfl, Nat.le_of_ble_eq_true rfl⟩ rfl (Nat.le_of_ble_eq_true rfl) dX6_pair_19 ?_
  intro r w' hp
  obtain ⟨z, rfl⟩ : ∃ z, r = some (.int (iZ z)) := by rcases hp with ⟨j, -, -, -, -, rfl, -⟩ | ⟨-, rfl, -⟩ <;> exact ⟨_, rfl⟩
  refine pw_stk (st' := [.int (iZ z)]) rfl ?_
  exact pw_iret C hr dX6_pair_22 hp

