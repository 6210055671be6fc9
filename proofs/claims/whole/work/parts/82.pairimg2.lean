/-! the image, side by side -/
theorem TA_vb {B G N : Nat} {σ : xS} {v v' : Nat → Nat → Int32} (h0 : ∀ c, c < 5 → v' 0 c = v 0 c) (h7 : ∀ c, c < 64 → v' 7 c = v 7 c) (h8 : ∀ c, c < 8 → v' 8 c = v 8 c) (h9 : ∀ c, c < 8 → v' 9 c = v 9 c) (h10 : ∀ c, c < 49 → v' 10 c = v 10 c) (hv : ∀ a w, 11 ≤ a → a ≤ 17 → w < 6 → v' a w = v a w) (h : TA B G N σ v) : TA B G N σ v' := by
  obtain ⟨⟨⟨a1, hg, hw, hl⟩, ⟨⟨d1, d2, d3, d4⟩, e1, e2, e3⟩⟩, ⟨a3, a4, a5⟩, a6⟩ := h
  have wg : ∀ g, g < G → wfG v' g := fun g hgG => by
    obtain ⟨l, a, ⟨l1, l2, l3⟩, f1, f2, f3⟩ := e1 g hgG
    exact ⟨l, a, ⟨l1, l2, l3⟩, by rw [h8 g (by omega)]; exact f1, by rw [h9 g (by omega)]; exact f2, fun j hj => by rw [h7 _ (by omega)]; exact f3 j hj⟩
  have ww : ∀ w, w < N → wfW v' G w := fun w hwN => by
    obtain ⟨k, p, d, g, q, t, ⟨b1, b2, b3, b4, b5, b6⟩, f1, f2, f3, f4, f5, f6⟩ := e2 w hwN
    exact ⟨k, p, d, g, q, t, ⟨b1, b2, b3, b4, by rw [h8 g (by omega)]; exact b5, b6⟩, by rw [hv _ _ (by omega) (by omega) (by omega)]; exact f1, by rw [hv _ _ (by omega) (by omega) (by omega)]; exact f2, by rw [hv _ _ (by omega) (by omega) (by omega)]; exact f3, by rw [hv _ _ (by omega) (by omega) (by omega)]; exact f4, by rw [hv _ _ (by omega) (by omega) (by omega)]; exact f5, by rw [hv _ _ (by omega) (by omega) (by omega)]; exact f6⟩
  refine ⟨⟨⟨a1, fun g hgG => ?_, fun w hwN => TK_v (fun a q1 q2 => hv a w q1 q2 (by omega)) (hw w hwN), fun p hp => by rw [h10 p hp]; exact hl p hp⟩, ⟨⟨d1, d2, by rw [h0 0 (by omega)]; exact d3, by rw [h0 1 (by omega)]; exact d4⟩, wg, ww, fun p hp => by rw [h10 p hp]; exact e3 p hp⟩⟩, ⟨by rw [h0 2 (by omega)]; exact a3, by rw [h0 3 (by omega)]; exact a4, by rw [h0 4 (by omega)]; exact a5⟩, a6⟩
  obtain ⟨b1, b2, b3⟩ := hg g hgG
  obtain ⟨l, a, ⟨l1, l2, l3⟩, f1, f2, f3⟩ := e1 g hgG
  refine ⟨by rw [h8 g (by omega)]; exact b1, by rw [h9 g (by omega)]; exact b2, fun j hj => ?_⟩
  rw [h8 g (by omega)] at hj
  have hj8 : j < 8 := by rw [f1, tn_nI (by omega)] at hj; omega
  rw [h7 _ (by omega)]
  exact b3 j hj
theorem cpO_T {A T f n x : Nat} {X : xS} : (cpO A T f n X).1 T x = if f ≤ x ∧ x < f + n then X.1 A (x - f) else X.1 T x := by
  show (if T = T ∧ f ≤ x ∧ x < f + n then X.1 A (x - f) else X.1 T x) = _
  by_cases h : f ≤ x ∧ x < f + n
  · rw [if_pos ⟨rfl, h⟩, if_pos h]
  · rw [if_neg (fun q => h q.2), if_neg h]
theorem cpI_A {A T f n c : Nat} {X : xS} (h : c < n) : (cpI A T f n X).1 A c = X.1 T (f + c) := if_pos ⟨rfl, h⟩
theorem sav0_e {T : Nat} {σ : xS} : sav0 T σ = cpO 17 T 165 6 (cpO 16 T 159 6 (cpO 15 T 153 6 (cpO 14 T 147 6 (cpO 13 T 141 6 (cpO 12 T 135 6 (cpO 11 T 129 6 (cpO 10 T 80 49 (cpO 9 T 72 8 (cpO 8 T 64 8 (cpO 7 T 0 64 (σ))))))))))) := rfl
theorem lod0_e {T : Nat} {σ : xS} : lod0 T σ = cpI 17 T 165 6 (cpI 16 T 159 6 (cpI 15 T 153 6 (cpI 14 T 147 6 (cpI 13 T 141 6 (cpI 12 T 135 6 (cpI 11 T 129 6 (cpI 10 T 80 49 (cpI 9 T 72 8 (cpI 8 T 64 8 (cpI 7 T 0 64 (σ))))))))))) := rfl
theorem sav_7 {σ : xS} {c : Nat} (h : c < 64) : (savM 39 σ).1 39 (0 + c) = σ.1 7 c := by
  unfold savM
  rw [xI_n (by omega), xI_n (by omega), xI_n (by omega), xI_n (by omega), xI_n (by omega), sav0_e, cpO_T, if_neg (by omega), cpO_T, if_neg (by omega), cpO_T, if_neg (by omega), cpO_T, if_neg (by omega), cpO_T, if_neg (by omega), cpO_T, if_neg (by omega), cpO_T, if_neg (by omega), cpO_T, if_neg (by omega), cpO_T, if_neg (by omega), cpO_T, if_neg (by omega), cpO_T, if_pos (by omega), show 0 + c - 0 = c by omega]
theorem lod_7 {T : Nat} {σ : xS} {c : Nat} (hT : 17 < T) (h : c < 64) : (lodM T σ).1 7 c = σ.1 T (0 + c) := by
  unfold lodM
  rw [xI_n (by omega), xI_n (by omega), xI_n (by omega), xI_n (by omega), xI_n (by omega), lod0_e, cpI_o (by omega), cpI_o (by omega), cpI_o (by omega), cpI_o (by omega), cpI_o (by omega), cpI_o (by omega), cpI_o (by omega), cpI_o (by omega), cpI_o (by omega), cpI_o (by omega), cpI_A h]
theorem sav_8 {σ : xS} {c : Nat} (h : c < 8) : (savM 39 σ).1 39 (64 + c) = σ.1 8 c := by
  unfold savM
  rw [xI_n (by omega), xI_n (by omega), xI_n (by omega), xI_n (by omega), xI_n (by omega), sav0_e, cpO_T, if_neg (by omega), cpO_T, if_neg (by omega), cpO_T, if_neg (by omega), cpO_T, if_neg (by omega), cpO_T, if_neg (by omega), cpO_T, if_neg (by omega), cpO_T, if_neg (by omega), cpO_T, if_neg (by omega), cpO_T, if_neg (by omega), cpO_T, if_pos (by omega), cpO_o (by omega), show 64 + c - 64 = c by omega]
theorem lod_8 {T : Nat} {σ : xS} {c : Nat} (hT : 17 < T) (h : c < 8) : (lodM T σ).1 8 c = σ.1 T (64 + c) := by
  unfold lodM
  rw [xI_n (by omega), xI_n (by omega), xI_n (by omega), xI_n (by omega), xI_n (by omega), lod0_e, cpI_o (by omega), cpI_o (by omega), cpI_o (by omega), cpI_o (by omega), cpI_o (by omega), cpI_o (by omega), cpI_o (by omega), cpI_o (by omega), cpI_o (by omega), cpI_A h, cpI_o (by omega)]
theorem sav_9 {σ : xS} {c : Nat} (h : c < 8) : (savM 39 σ).1 39 (72 + c) = σ.1 9 c := by
  unfold savM
  rw [xI_n (by omega), xI_n (by omega), xI_n (by omega), xI_n (by omega), xI_n (by omega), sav0_e, cpO_T, if_neg (by omega), cpO_T, if_neg (by omega), cpO_T, if_neg (by omega), cpO_T, if_neg (by omega), cpO_T, if_neg (by omega), cpO_T, if_neg (by omega), cpO_T, if_neg (by omega), cpO_T, if_neg (by omega), cpO_T, if_pos (by omega), cpO_o (by omega), cpO_o (by omega), show 72 + c - 72 = c by omega]
theorem lod_9 {T : Nat} {σ : xS} {c : Nat} (hT : 17 < T) (h : c < 8) : (lodM T σ).1 9 c = σ.1 T (72 + c) := by
  unfold lodM
  rw [xI_n (by omega), xI_n (by omega), xI_n (by omega), xI_n (by omega), xI_n (by omega), lod0_e, cpI_o (by omega), cpI_o (by omega), cpI_o (by omega), cpI_o (by omega), cpI_o (by omega), cpI_o (by omega), cpI_o (by omega), cpI_o (by omega), cpI_A h, cpI_o (by omega), cpI_o (by omega)]
theorem sav_10 {σ : xS} {c : Nat} (h : c < 49) : (savM 39 σ).1 39 (80 + c) = σ.1 10 c := by
  unfold savM
  rw [xI_n (by omega), xI_n (by omega), xI_n (by omega), xI_n (by omega), xI_n (by omega), sav0_e, cpO_T, if_neg (by omega), cpO_T, if_neg (by omega), cpO_T, if_neg (by omega), cpO_T, if_neg (by omega), cpO_T, if_neg (by omega), cpO_T, if_neg (by omega), cpO_T, if_neg (by omega), cpO_T, if_pos (by omega), cpO_o (by omega), cpO_o (by omega), cpO_o (by omega), show 80 + c - 80 = c by omega]
theorem lod_10 {T : Nat} {σ : xS} {c : Nat} (hT : 17 < T) (h : c < 49) : (lodM T σ).1 10 c = σ.1 T (80 + c) := by
  unfold lodM
  rw [xI_n (by omega), xI_n (by omega), xI_n (by omega), xI_n (by omega), xI_n (by omega), lod0_e, cpI_o (by omega), cpI_o (by omega), cpI_o (by omega), cpI_o (by omega), cpI_o (by omega), cpI_o (by omega), cpI_o (by omega), cpI_A h, cpI_o (by omega), cpI_o (by omega), cpI_o (by omega)]
theorem sav_11 {σ : xS} {c : Nat} (h : c < 6) : (savM 39 σ).1 39 (129 + c) = σ.1 11 c := by
  unfold savM
  rw [xI_n (by omega), xI_n (by omega), xI_n (by omega), xI_n (by omega), xI_n (by omega), sav0_e, cpO_T, if_neg (by omega), cpO_T, if_neg (by omega), cpO_T, if_neg (by omega), cpO_T, if_neg (by omega), cpO_T, if_neg (by omega), cpO_T, if_neg (by omega), cpO_T, if_pos (by omega), cpO_o (by omega), cpO_o (by omega), cpO_o (by omega), cpO_o (by omega), show 129 + c - 129 = c by omega]
theorem lod_11 {T : Nat} {σ : xS} {c : Nat} (hT : 17 < T) (h : c < 6) : (lodM T σ).1 11 c = σ.1 T (129 + c) := by
  unfold lodM
  rw [xI_n (by omega), xI_n (by omega), xI_n (by omega), xI_n (by omega), xI_n (by omega), lod0_e, cpI_o (by omega), cpI_o (by omega), cpI_o (by omega), cpI_o (by omega), cpI_o (by omega), cpI_o (by omega), cpI_A h, cpI_o (by omega), cpI_o (by omega), cpI_o (by omega), cpI_o (by omega)]
theorem sav_12 {σ : xS} {c : Nat} (h : c < 6) : (savM 39 σ).1 39 (135 + c) = σ.1 12 c := by
  unfold savM
  rw [xI_n (by omega), xI_n (by omega), xI_n (by omega), xI_n (by omega), xI_n (by omega), sav0_e, cpO_T, if_neg (by omega), cpO_T, if_neg (by omega), cpO_T, if_neg (by omega), cpO_T, if_neg (by omega), cpO_T, if_neg (by omega), cpO_T, if_pos (by omega), cpO_o (by omega), cpO_o (by omega), cpO_o (by omega), cpO_o (by omega), cpO_o (by omega), show 135 + c - 135 = c by omega]
theorem lod_12 {T : Nat} {σ : xS} {c : Nat} (hT : 17 < T) (h : c < 6) : (lodM T σ).1 12 c = σ.1 T (135 + c) := by
  unfold lodM
  rw [xI_n (by omega), xI_n (by omega), xI_n (by omega), xI_n (by omega), xI_n (by omega), lod0_e, cpI_o (by omega), cpI_o (by omega), cpI_o (by omega), cpI_o (by omega), cpI_o (by omega), cpI_A h, cpI_o (by omega), cpI_o (by omega), cpI_o (by omega), cpI_o (by omega), cpI_o (by omega)]
theorem sav_13 {σ : xS} {c : Nat} (h : c < 6) : (savM 39 σ).1 39 (141 + c) = σ.1 13 c := by
  unfold savM
  rw [xI_n (by omega), xI_n (by omega), xI_n (by omega), xI_n (by omega), xI_n (by omega), sav0_e, cpO_T, if_neg (by omega), cpO_T, if_neg (by omega), cpO_T, if_neg (by omega), cpO_T, if_neg (by omega), cpO_T, if_pos (by omega), cpO_o (by omega), cpO_o (by omega), cpO_o (by omega), cpO_o (by omega), cpO_o (by omega), cpO_o (by omega), show 141 + c - 141 = c by omega]
theorem lod_13 {T : Nat} {σ : xS} {c : Nat} (hT : 17 < T) (h : c < 6) : (lodM T σ).1 13 c = σ.1 T (141 + c) := by
  unfold lodM
  rw [xI_n (by omega), xI_n (by omega), xI_n (by omega), xI_n (by omega), xI_n (by omega), lod0_e, cpI_o (by omega), cpI_o (by omega), cpI_o (by omega), cpI_o (by omega), cpI_A h, cpI_o (by omega), cpI_o (by omega), cpI_o (by omega), cpI_o (by omega), cpI_o (by omega), cpI_o (by omega)]
theorem sav_14 {σ : xS} {c : Nat} (h : c < 6) : (savM 39 σ).1 39 (147 + c) = σ.1 14 c := by
  unfold savM
  rw [xI_n (by omega), xI_n (by omega), xI_n (by omega), xI_n (by omega), xI_n (by omega), sav0_e, cpO_T, if_neg (by omega), cpO_T, if_neg (by omega), cpO_T, if_neg (by omega), cpO_T, if_pos (by omega), cpO_o (by omega), cpO_o (by omega), cpO_o (by omega), cpO_o (by omega), cpO_o (by omega), cpO_o (by omega), cpO_o (by omega), show 147 + c - 147 = c by omega]
theorem lod_14 {T : Nat} {σ : xS} {c : Nat} (hT : 17 < T) (h : c < 6) : (lodM T σ).1 14 c = σ.1 T (147 + c) := by
  unfold lodM
  rw [xI_n (by omega), xI_n (by omega), xI_n (by omega), xI_n (by omega), xI_n (by omega), lod0_e, cpI_o (by omega), cpI_o (by omega), cpI_o (by omega), cpI_A h, cpI_o (by omega), cpI_o (by omega), cpI_o (by omega), cpI_o (by omega), cpI_o (by omega), cpI_o (by omega), cpI_o (by omega)]
theorem sav_15 {σ : xS} {c : Nat} (h : c < 6) : (savM 39 σ).1 39 (153 + c) = σ.1 15 c := by
  unfold savM
  rw [xI_n (by omega), xI_n (by omega), xI_n (by omega), xI_n (by omega), xI_n (by omega), sav0_e, cpO_T, if_neg (by omega), cpO_T, if_neg (by omega), cpO_T, if_pos (by omega), cpO_o (by omega), cpO_o (by omega), cpO_o (by omega), cpO_o (by omega), cpO_o (by omega), cpO_o (by omega), cpO_o (by omega), cpO_o (by omega), show 153 + c - 153 = c by omega]
theorem lod_15 {T : Nat} {σ : xS} {c : Nat} (hT : 17 < T) (h : c < 6) : (lodM T σ).1 15 c = σ.1 T (153 + c) := by
  unfold lodM
  rw [xI_n (by omega), xI_n (by omega), xI_n (by omega), xI_n (by omega), xI_n (by omega), lod0_e, cpI_o (by omega), cpI_o (by omega), cpI_A h, cpI_o (by omega), cpI_o (by omega), cpI_o (by omega), cpI_o (by omega), cpI_o (by omega), cpI_o (by omega), cpI_o (by omega), cpI_o (by omega)]
theorem sav_16 {σ : xS} {c : Nat} (h : c < 6) : (savM 39 σ).1 39 (159 + c) = σ.1 16 c := by
  unfold savM
  rw [xI_n (by omega), xI_n (by omega), xI_n (by omega), xI_n (by omega), xI_n (by omega), sav0_e, cpO_T, if_neg (by omega), cpO_T, if_pos (by omega), cpO_o (by omega), cpO_o (by omega), cpO_o (by omega), cpO_o (by omega), cpO_o (by omega), cpO_o (by omega), cpO_o (by omega), cpO_o (by omega), cpO_o (by omega), show 159 + c - 159 = c by omega]
theorem lod_16 {T : Nat} {σ : xS} {c : Nat} (hT : 17 < T) (h : c < 6) : (lodM T σ).1 16 c = σ.1 T (159 + c) := by
  unfold lodM
  rw [xI_n (by omega), xI_n (by omega), xI_n (by omega), xI_n (by omega), xI_n (by omega), lod0_e, cpI_o (by omega), cpI_A h, cpI_o (by omega), cpI_o (by omega), cpI_o (by omega), cpI_o (by omega), cpI_o (by omega), cpI_o (by omega), cpI_o (by omega), cpI_o (by omega), cpI_o (by omega)]
theorem sav_17 {σ : xS} {c : Nat} (h : c < 6) : (savM 39 σ).1 39 (165 + c) = σ.1 17 c := by
  unfold savM
  rw [xI_n (by omega), xI_n (by omega), xI_n (by omega), xI_n (by omega), xI_n (by omega), sav0_e, cpO_T, if_pos (by omega), cpO_o (by omega), cpO_o (by omega), cpO_o (by omega), cpO_o (by omega), cpO_o (by omega), cpO_o (by omega), cpO_o (by omega), cpO_o (by omega), cpO_o (by omega), cpO_o (by omega), show 165 + c - 165 = c by omega]
theorem lod_17 {T : Nat} {σ : xS} {c : Nat} (hT : 17 < T) (h : c < 6) : (lodM T σ).1 17 c = σ.1 T (165 + c) := by
  unfold lodM
  rw [xI_n (by omega), xI_n (by omega), xI_n (by omega), xI_n (by omega), xI_n (by omega), lod0_e, cpI_A h, cpI_o (by omega), cpI_o (by omega), cpI_o (by omega), cpI_o (by omega), cpI_o (by omega), cpI_o (by omega), cpI_o (by omega), cpI_o (by omega), cpI_o (by omega), cpI_o (by omega)]
theorem sav_0 {σ : xS} : ∀ c, c < 5 → (savM 39 σ).1 39 (171 + c) = σ.1 0 c
  | 0, _ => by unfold savM; rw [xI_n (by omega), xI_n (by omega), xI_n (by omega), xI_n (by omega), xI_s]
  | 1, _ => by unfold savM; rw [xI_n (by omega), xI_n (by omega), xI_n (by omega), xI_s]
  | 2, _ => by unfold savM; rw [xI_n (by omega), xI_n (by omega), xI_s]
  | 3, _ => by unfold savM; rw [xI_n (by omega), xI_s]
  | 4, _ => by unfold savM; rw [xI_s]
  | n + 5, h => by omega
theorem lod_0 {T : Nat} {σ : xS} : ∀ c, c < 5 → (lodM T σ).1 0 c = σ.1 T (171 + c)
  | 0, _ => by unfold lodM; rw [xI_n (by omega), xI_n (by omega), xI_n (by omega), xI_n (by omega), xI_s]
  | 1, _ => by unfold lodM; rw [xI_n (by omega), xI_n (by omega), xI_n (by omega), xI_s]
  | 2, _ => by unfold lodM; rw [xI_n (by omega), xI_n (by omega), xI_s]
  | 3, _ => by unfold lodM; rw [xI_n (by omega), xI_s]
  | 4, _ => by unfold lodM; rw [xI_s]
  | n + 5, h => by omega
theorem a1117 {a : Nat} (h1 : 11 ≤ a) (h2 : a ≤ 17) : a = 11 ∨ a = 12 ∨ a = 13 ∨ a = 14 ∨ a = 15 ∨ a = 16 ∨ a = 17 := by omega
theorem img_TA {B G N : Nat} {σ U : xS} (h : TA B G N σ U.1) : TA B G N σ (vwM 39 (savM 39 U)) := by
  refine TA_vb (fun c hc => sav_0 c hc) (fun c hc => ?_) (fun c hc => sav_8 hc) (fun c hc => sav_9 hc) (fun c hc => sav_10 hc) (fun a w h1 h2 hw => ?_) h
  · show (savM 39 U).1 39 c = _
    have := sav_7 (σ := U) hc
    rw [Nat.zero_add] at this
    exact this
  · rcases a1117 h1 h2 with rfl | rfl | rfl | rfl | rfl | rfl | rfl
    · exact sav_11 hw
    · exact sav_12 hw
    · exact sav_13 hw
    · exact sav_14 hw
    · exact sav_15 hw
    · exact sav_16 hw
    · exact sav_17 hw
theorem lod_TA {B G N : Nat} {σ τ : xS} (h : TA B G N σ (vwM 39 τ)) : TA B G N σ (lodM 39 τ).1 := by
  refine TA_vb (fun c hc => lod_0 c hc) (fun c hc => ?_) (fun c hc => lod_8 (by omega) hc) (fun c hc => lod_9 (by omega) hc) (fun c hc => lod_10 (by omega) hc) (fun a w h1 h2 hw => ?_) h
  · have := lod_7 (T := 39) (σ := τ) (by omega) hc
    rw [Nat.zero_add] at this
    exact this
  · rcases a1117 h1 h2 with rfl | rfl | rfl | rfl | rfl | rfl | rfl
    · exact lod_11 (by omega) hw
    · exact lod_12 (by omega) hw
    · exact lod_13 (by omega) hw
    · exact lod_14 (by omega) hw
    · exact lod_15 (by omega) hw
    · exact lod_16 (by omega) hw
    · exact lod_17 (by omega) hw
theorem ok_image {G N : Nat} {σ τ : xS} (h : RRn G N σ τ) : OKp (imaX σ) (τ.1 0 1, imgM τ) := by
  obtain ⟨⟨hG, hN⟩, ⟨c1, c2⟩, ⟨c3, c4⟩⟩ := RRn_G h
  have e1 : tn (σ.1 100 1) ≤ 8 := by rw [c1, tn_nI (by omega)]; exact hG
  have e2 : tn (σ.1 100 2) ≤ 6 := by rw [c3, tn_nI (by omega)]; exact hN
  have hx : ∀ a b, (a < 300 ∨ 330 ≤ a) → a ≠ 0 ∨ b ≠ 9 → (xI (cpT 300 100 σ) 0 9 1).1 a b = σ.1 a b := fun a b q q2 => by rw [xI_n (by omega), cpT_o e2 e1 (by omega)]
  have hx2 : ∀ a b, a ≠ 300 → (xI (cpT 300 100 σ) 0 9 1).2 a b = σ.2 a b := fun a b q => by
    show (cpT 300 100 σ).2 a b = _
    rw [cpT_2, xJ_ne _ _ _ q]
  have hm : ∀ a c, a ≠ 39 → a ≠ 0 ∨ c ≠ 49 → (imgM τ).1 a c = τ.1 a c := fun a c q q2 => by unfold imgM; rw [savM_o q, xI_n (by omega)]
  have hm49 : (imgM τ).1 0 49 = 1 := by unfold imgM; rw [savM_o (by omega), xI_s]
  have hA : TA 300 G N (xI (cpT 300 100 σ) 0 9 1) (vwM 39 (imgM τ)) := by
    have h1 : TA 300 G N (cpT 300 100 σ) τ.1 := TA_cp (by omega) h.1
    have h2 : TA 300 G N (cpT 300 100 σ) (xI τ 0 49 1).1 := TA_v (fun c q => xI_n (by omega)) (fun a c q1 q2 => xI_n (by omega)) (fun a w q1 q2 q3 => xI_n (by omega)) h1
    exact TA_c (σ := cpT 300 100 σ) (fun a b q1 q2 => xI_n (by omega)) rfl (img_TA h2)
  have hx10 : (xI (cpT 300 100 σ) 0 9 1).1 0 9 = 1 := xI_s
  have hm2 : (imgM τ).2 = τ.2 := rfl
  show OKp (σ.1 100 2, xI (cpT 300 100 σ) 0 9 1) (τ.1 0 1, imgM τ)
  generalize xI (cpT 300 100 σ) 0 9 1 = S at *
  generalize imgM τ = U at *
  refine ⟨c3.trans c4.symm, G, N, ?_⟩
  obtain ⟨h1, h2, h3, h4, ⟨h5, h6, h7⟩, h8, h9⟩ := h
  refine ⟨TA_v (fun c q => hm 0 c (by omega) (by omega)) (fun a c q1 q2 => hm a c (by omega) (by omega)) (fun a w q1 q2 q3 => hm a w (by omega) (by omega)) (TA_c (fun a b q1 q2 => hx a b (by omega) (by omega)) (hx2 _ _ (by omega)) h1), fun s hs => ?_, fun k q1 q2 => ?_, ?_, ⟨?_, ?_, fun i hi hl => ?_⟩, Or.inr ⟨⟨hx10, hm49⟩, G, N, hA⟩, fun j hj => ?_⟩
  · have hsh := h2 s hs
    unfold SHr at *
    simp only [hx (10 + s) _ (Or.inl (by omega)) (Or.inl (by omega)), hm 23 _ (by omega) (Or.inl (by omega)), hm 24 _ (by omega) (Or.inl (by omega)), hm 25 _ (by omega) (Or.inl (by omega)), hm 26 _ (by omega) (Or.inl (by omega)), hx2 (20 + s) _ (by omega), hm2]
    exact hsh
  · show S.1 6 k = U.1 6 k
    rw [hx _ _ (by omega) (by omega), hm _ _ (by omega) (by omega)]; exact h3 k q1 q2
  · show S.1 0 10 = U.1 0 5
    rw [hx _ _ (by omega) (by omega), hm _ _ (by omega) (by omega)]; exact h4
  · show S.1 4 0 = U.1 0 48
    rw [hx _ _ (by omega) (by omega), hm _ _ (by omega) (by omega)]; exact h5
  · show rnP 100 (U.1 0 48)
    rw [hm _ _ (by omega) (by omega)]; exact h6
  · have hl : nI i < U.1 0 48 := hl
    rw [hm _ _ (by omega) (by omega)] at hl
    show S.1 5 i = U.1 47 i
    rw [hx _ _ (by omega) (by omega), hm _ _ (by omega) (by omega)]; exact h7 i hi hl
  · show U.1 29 j = _
    rw [hm _ _ (by omega) (by omega)]; exact h9 j hj
theorem ok_restore {G N : Nat} {σ τ : xS} (h : RRn G N σ τ) : OKp (resX σ) (resM τ) := by
  unfold resX resM
  rcases h.2.2.2.2.2.1 with ⟨h1, h2⟩ | ⟨⟨h1, h2⟩, G', N', hA⟩
  · rw [if_pos h1, if_pos h2]
    exact no_p rk6 h
  · rw [if_neg (by rw [h1]; decide), if_neg (by rw [h2]; decide)]
    have hG' := hA.1.2.1.1
    have hN' := hA.1.2.1.2.1
    have c3 : σ.1 300 2 = nI N' := hA.1.1.1.2
    have e1 : tn (σ.1 300 1) ≤ 8 := by rw [hA.1.1.1.1, tn_nI (by omega)]; exact hG'
    have e2 : tn (σ.1 300 2) ≤ 6 := by rw [c3, tn_nI (by omega)]; exact hN'
    have hB := lod_TA (TA_cp (B := 100) (by omega) hA)
    have hx : ∀ a b, (a < 100 ∨ 130 ≤ a) → (cpT 100 300 σ).1 a b = σ.1 a b := fun a b q => cpT_o e2 e1 (by omega)
    have hx2 : ∀ a b, a ≠ 100 → (cpT 100 300 σ).2 a b = σ.2 a b := fun a b q => by rw [cpT_2, xJ_ne _ _ _ q]
    have hm : ∀ a c, ((a < 7 ∧ (a = 0 → 4 < c)) ∨ 17 < a) → (lodM 39 τ).1 a c = τ.1 a c := fun a c q => lodM_o q
    have hm2 : (lodM 39 τ).2 = τ.2 := rfl
    have x12 : (cpT 100 300 σ).1 100 2 = nI N' := hB.1.1.1.2
    have m01 : (lodM 39 τ).1 0 1 = nI N' := hB.1.2.1.2.2.2
    have hS : ∀ s, s < 8 → SHr N (cpT 100 300 σ) (lodM 39 τ) s := fun s hs => by
      have hsh := h.2.1 s hs
      unfold SHr at *
      simp only [hx (10 + s) _ (Or.inl (by omega)), hm 23 _ (Or.inr (by omega)), hm 24 _ (Or.inr (by omega)), hm 25 _ (Or.inr (by omega)), hm 26 _ (Or.inr (by omega)), hx2 (20 + s) _ (by omega), hm2]
      exact hsh
    have hN := (RRn_G h).1.2
    generalize cpT 100 300 σ = S at *
    generalize lodM 39 τ = U at *
    obtain ⟨g1, g2, g3⟩ := rsM_sh (τ := U) 8 (Nat.le_refl _)
    have eo : ∀ a b, a < 10 ∨ 18 ≤ a → (esX 8 S).1 a b = S.1 a b := fun a b q => esX_o q (Nat.le_refl _)
    have eo2 : (esX 8 S).2 = S.2 := esX_2
    have e8 := fun s (hs : s < 8) b => esX_8 x12 hs b
    generalize esX 8 S = S2 at *
    generalize rsM 8 U = U2 at *
    refine ⟨c3.trans m01.symm, G', N', RRn_u h (TA_v (fun c _ => g2 0 c (by omega)) (fun a c _ _ => g2 a c (by omega)) (fun a w _ _ _ => g2 a w (by omega)) (TA_c (fun a b _ _ => eo a b (by omega)) (by show S2.2 100 0 = _; rw [eo2]) hB)) (fun s hs => SHr_es (N := N) (by omega) (by omega) (hS s hs) hs (fun b => e8 s hs b) (fun i => by show S2.2 _ _ = _; rw [eo2]) (g2 25 s (by omega)) (g2 24 s (by omega)) (g2 26 s (by omega)) (fun c => by show U2.2 27 c = _; rw [g3]) (fun q => ?_) (fun w hw q1 q2 => ?_)) (fun a b q q2 q3 => ?_) ?_ (fun c q => ?_) (fun a c q => ?_)⟩
    · show U2.1 23 s = U.1 23 s
      rw [g1, if_neg (fun z => q z.2.1)]
    · show U2.1 23 s = _
      rw [g1, m01, q2]
      have he : nI w < nI N' ↔ w < N' := nI_ltI (by omega) (by omega)
      by_cases hwM : w < N'
      · rw [if_pos hwM, if_neg (fun z => z.2.2 (he.mpr hwM))]
        exact q1
      · rw [if_neg hwM, if_pos ⟨hs, q1, fun z => hwM (he.mp z)⟩]
    · show S2.1 a b = _
      rw [eo _ _ (by omega), hx _ _ (by omega)]
    · show S2.2 300 0 = _
      rw [eo2, hx2 _ _ (by omega)]
    · show U2.1 0 c = _
      rw [g2 _ _ (by omega), hm _ _ (by omega)]
    · show U2.1 a c = _
      rw [g2 _ _ (by omega), hm _ _ (by omega)]
