/-! facts of the two worlds, as rules -/
/-- a town's key -/
def xTw (B : Nat) : Prop := B = 100 ∨ B = 200 ∨ B = 300 ∨ B = 400
/-- a shelf's key -/
def xSh (K : Nat) : Prop := 10 ≤ K ∧ K < 18
theorem obT {B : Nat} (h : xTw B) : xob WX B 4 := by rcases h with rfl | rfl | rfl | rfl <;> exact ⟨by decide, by decide⟩
theorem obS {K : Nat} (h : xSh K) : xob WX K 3 := by
  obtain ⟨h1, h2⟩ := h
  have key : ∀ K, K < 18 → 10 ≤ K → (K ∈ WX.1 ∧ WX.2.1 K = 3 + 5) := by decide +kernel
  exact key K h2 h1
theorem obM : xob WM 0 7 := ⟨by decide, by decide⟩
theorem ob6 : xob WX 0 6 := ⟨by decide, by decide⟩
theorem ob2 : xob WX 2 2 := ⟨by decide, by decide⟩
theorem ob0 : xob WX 4 0 := ⟨by decide, by decide⟩
theorem obM_t : xob WM 0 7 = True := eq_true obM
theorem ob6_t : xob WX 0 6 = True := eq_true ob6
theorem ob2_t : xob WX 2 2 = True := eq_true ob2
theorem ob0_t : xob WX 4 0 = True := eq_true ob0
theorem obT_t {B : Nat} (h : xTw B) : xob WX B 4 = True := eq_true (obT h)
theorem obS_t {K : Nat} (h : xSh K) : xob WX K 3 = True := eq_true (obS h)
theorem kTg {B i : Nat} (h : xTw B) (hi : i < 8) : xob WX (B + 10 + i) 1 := by
  have key : ∀ i, i < 8 → ((100 + 10 + i ∈ WX.1 ∧ WX.2.1 (100 + 10 + i) = 1 + 5) ∧ (200 + 10 + i ∈ WX.1 ∧ WX.2.1 (200 + 10 + i) = 1 + 5) ∧ (300 + 10 + i ∈ WX.1 ∧ WX.2.1 (300 + 10 + i) = 1 + 5) ∧ (400 + 10 + i ∈ WX.1 ∧ WX.2.1 (400 + 10 + i) = 1 + 5)) := by decide +kernel
  have k := key i hi
  rcases h with rfl | rfl | rfl | rfl
  · exact k.1
  · exact k.2.1
  · exact k.2.2.1
  · exact k.2.2.2
theorem kTw {B i : Nat} (h : xTw B) (hi : i < 6) : xob WX (B + 20 + i) 5 := by
  have key : ∀ i, i < 6 → ((100 + 20 + i ∈ WX.1 ∧ WX.2.1 (100 + 20 + i) = 5 + 5) ∧ (200 + 20 + i ∈ WX.1 ∧ WX.2.1 (200 + 20 + i) = 5 + 5) ∧ (300 + 20 + i ∈ WX.1 ∧ WX.2.1 (300 + 20 + i) = 5 + 5) ∧ (400 + 20 + i ∈ WX.1 ∧ WX.2.1 (400 + 20 + i) = 5 + 5)) := by decide +kernel
  have k := key i hi
  rcases h with rfl | rfl | rfl | rfl
  · exact k.1
  · exact k.2.1
  · exact k.2.2.1
  · exact k.2.2.2
theorem kTg_t {B i : Nat} (h : xTw B) (hi : i < 8) : xob WX (B + 10 + i) 1 = True := eq_true (kTg h hi)
theorem kTw_t {B i : Nat} (h : xTw B) (hi : i < 6) : xob WX (B + 20 + i) 5 = True := eq_true (kTw h hi)
theorem kT3_t {B : Nat} (h : xTw B) : xob WX (B + 3) 1 = True := eq_true (by rcases h with rfl | rfl | rfl | rfl <;> exact ⟨by decide, by decide⟩)
theorem kT4_t {B : Nat} (h : xTw B) : xob WX (B + 4) 5 = True := eq_true (by rcases h with rfl | rfl | rfl | rfl <;> exact ⟨by decide, by decide⟩)
theorem kT1_t {B : Nat} (h : xTw B) : xar WX (B + 1) 3 = True := eq_true (by rcases h with rfl | rfl | rfl | rfl <;> exact ⟨by decide, by decide⟩)
theorem kT2_t {B : Nat} (h : xTw B) : xar WX (B + 2) 4 = True := eq_true (by rcases h with rfl | rfl | rfl | rfl <;> exact ⟨by decide, by decide⟩)
theorem kT2_f {B : Nat} (h : xTw B) {k : Nat} (hk : k ≠ 4) : xar WX (B + 2) k = False := eq_false (by rcases h with rfl | rfl | rfl | rfl <;> exact fun q => hk (by simpa [WX, kdX] using q.2.symm))
theorem lT1 {B : Nat} (h : xTw B) : WX.2.2.1 (B + 1) = 8 := by rcases h with rfl | rfl | rfl | rfl <;> rfl
theorem lT2 {B : Nat} (h : xTw B) : WX.2.2.1 (B + 2) = 6 := by rcases h with rfl | rfl | rfl | rfl <;> rfl
theorem rT6 {B : Nat} (h : xTw B) : WX.2.2.2 B 6 = B + 1 := by rcases h with rfl | rfl | rfl | rfl <;> rfl
theorem rT7 {B : Nat} (h : xTw B) : WX.2.2.2 B 7 = B + 2 := by rcases h with rfl | rfl | rfl | rfl <;> rfl
theorem rT8 {B : Nat} (h : xTw B) : WX.2.2.2 B 8 = B + 3 := by rcases h with rfl | rfl | rfl | rfl <;> rfl
theorem rT9 {B : Nat} (h : xTw B) : WX.2.2.2 B 9 = B + 4 := by rcases h with rfl | rfl | rfl | rfl <;> rfl
theorem rT1i {B i : Nat} (h : xTw B) : WX.2.2.2 (B + 1) i = B + 10 + i := by rcases h with rfl | rfl | rfl | rfl <;> (show _ + _ + i = _; omega)
theorem rT2i {B i : Nat} (h : xTw B) : WX.2.2.2 (B + 2) i = B + 20 + i := by rcases h with rfl | rfl | rfl | rfl <;> (show _ + _ + i = _; omega)
theorem rS2 {K : Nat} (h : xSh K) : WX.2.2.2 K 2 = K + 10 := by
  have key : ∀ K, K < 18 → 10 ≤ K → rkX K 2 = K + 10 := by decide +kernel
  exact key K h.2 h.1
theorem kSe_t {K : Nat} (h : xSh K) : xar WX (K + 10) 1 = True := by
  have key : ∀ K, K < 18 → 10 ≤ K → (K + 10 ∈ WX.1 ∧ WX.2.1 (K + 10) = 1) := by decide +kernel
  exact eq_true (key K h.2 h.1)
theorem lSe {K : Nat} (h : xSh K) : WX.2.2.1 (K + 10) = 160 := by
  have key : ∀ K, K < 18 → 10 ≤ K → lnX (K + 10) = 160 := by decide +kernel
  exact key K h.2 h.1
theorem r0_0 : WX.2.2.2 0 0 = 1 := rfl
theorem r0_1 : WX.2.2.2 0 1 = 100 := rfl
theorem r0_2 : WX.2.2.2 0 2 = 200 := rfl
theorem r0_3 : WX.2.2.2 0 3 = 300 := rfl
theorem r0_4 : WX.2.2.2 0 4 = 2 := rfl
theorem r0_5 : WX.2.2.2 0 5 = 4 := rfl
theorem r0_6 : WX.2.2.2 0 6 = 6 := rfl
theorem r0_7 : WX.2.2.2 0 7 = 7 := rfl
theorem r0_8 : WX.2.2.2 0 8 = 8 := rfl
theorem r0_9 : WX.2.2.2 0 9 = 8 := rfl
theorem r1_i {i : Nat} : WX.2.2.2 1 i = 10 + i := rfl
theorem r2_4 : WX.2.2.2 2 4 = 3 := rfl
theorem r2_5 : WX.2.2.2 2 5 = 400 := rfl
theorem r4_4 : WX.2.2.2 4 4 = 5 := rfl
theorem a1_t : xar WX 1 2 = True := eq_true ⟨by decide, by decide⟩
theorem a3_t : xar WX 3 0 = True := eq_true ⟨by decide, by decide⟩
theorem a5_t : xar WX 5 0 = True := eq_true ⟨by decide, by decide⟩
theorem a6_t : xar WX 6 0 = True := eq_true ⟨by decide, by decide⟩
theorem a7_t : xar WX 7 1 = True := eq_true ⟨by decide, by decide⟩
theorem a8_t : xar WX 8 1 = True := eq_true ⟨by decide, by decide⟩
theorem l1 : WX.2.2.1 1 = 8 := rfl
theorem l3 : WX.2.2.1 3 = 160 := rfl
theorem l5 : WX.2.2.1 5 = 20 := rfl
theorem l6 : WX.2.2.1 6 = 8 := rfl
theorem l7 : WX.2.2.1 7 = 401 := rfl
theorem l8 : WX.2.2.1 8 = 401 := rfl
theorem T1 : xTw 100 := Or.inl rfl
theorem T2 : xTw 200 := Or.inr (Or.inl rfl)
theorem T3 : xTw 300 := Or.inr (Or.inr (Or.inl rfl))
theorem T4 : xTw 400 := Or.inr (Or.inr (Or.inr rfl))
theorem nI8 : Int32.ofNat 8 = 8 := rfl
theorem nI6 : Int32.ofNat 6 = 6 := rfl
theorem nI160 : Int32.ofNat 160 = 160 := rfl
theorem nI20 : Int32.ofNat 20 = 20 := rfl
theorem nI401 : Int32.ofNat 401 = 401 := rfl
theorem nI49 : Int32.ofNat 49 = 49 := rfl
theorem rMi {f : Nat} : WM.2.2.2 0 f = f := rfl
/-- a town's key for a walker's number, as who() has it -/
def whoK (B : Nat) (x : Int32) : Nat := if 0 ≤ x ∧ x < 6 then B + 20 + tn x else B + 4
def gaiK (B : Nat) (x : Int32) : Nat := if 0 ≤ x ∧ x < 8 then B + 10 + tn x else B + 3
theorem ob5 {B : Nat} {x : Int32} (h : xTw B) : xob WX (whoK B x) 5 := by
  unfold whoK
  split
  · rename_i hx
    refine kTw h ?_
    have h1 : x.toInt < 6 := by simpa using Int32.lt_iff_toInt_lt.mp hx.2
    show x.toInt.toNat < 6
    omega
  · exact of_eq_true (kT4_t h)
theorem ob1 {B : Nat} {x : Int32} (h : xTw B) : xob WX (gaiK B x) 1 := by
  unfold gaiK
  split
  · rename_i hx
    refine kTg h ?_
    have h1 : x.toInt < 8 := by simpa using Int32.lt_iff_toInt_lt.mp hx.2
    show x.toInt.toNat < 8
    omega
  · exact of_eq_true (kT3_t h)
theorem ob5_t {B : Nat} {x : Int32} (h : xTw B) : xob WX (whoK B x) 5 = True := eq_true (ob5 h)
theorem ob1_t {B : Nat} {x : Int32} (h : xTw B) : xob WX (gaiK B x) 1 = True := eq_true (ob1 h)
theorem whoK_n {B i : Nat} (h : i < 6) : whoK B (nI i) = B + 20 + i := by
  unfold whoK
  rw [if_pos ⟨nI_pos' (by omega), (nI_ltI (a := i) (b := 6) (by omega) (by omega)).mpr h⟩, tn_nI (by omega)]
theorem gaiK_n {B i : Nat} (h : i < 8) : gaiK B (nI i) = B + 10 + i := by
  unfold gaiK
  rw [if_pos ⟨nI_pos' (by omega), (nI_ltI (a := i) (b := 8) (by omega) (by omega)).mpr h⟩, tn_nI (by omega)]
