/-! what a text is saved to -/
theorem sav_7s {σ : xS} {c : Nat} (h : c < 64) : (savM 38 σ).1 38 (0 + c) = σ.1 7 c := by
  unfold savM
  rw [xI_n (by omega), xI_n (by omega), xI_n (by omega), xI_n (by omega), xI_n (by omega), sav0_e, cpO_T, if_neg (by omega), cpO_T, if_neg (by omega), cpO_T, if_neg (by omega), cpO_T, if_neg (by omega), cpO_T, if_neg (by omega), cpO_T, if_neg (by omega), cpO_T, if_neg (by omega), cpO_T, if_neg (by omega), cpO_T, if_neg (by omega), cpO_T, if_neg (by omega), cpO_T, if_pos (by omega), show 0 + c - 0 = c by omega]
theorem sav_8s {σ : xS} {c : Nat} (h : c < 8) : (savM 38 σ).1 38 (64 + c) = σ.1 8 c := by
  unfold savM
  rw [xI_n (by omega), xI_n (by omega), xI_n (by omega), xI_n (by omega), xI_n (by omega), sav0_e, cpO_T, if_neg (by omega), cpO_T, if_neg (by omega), cpO_T, if_neg (by omega), cpO_T, if_neg (by omega), cpO_T, if_neg (by omega), cpO_T, if_neg (by omega), cpO_T, if_neg (by omega), cpO_T, if_neg (by omega), cpO_T, if_neg (by omega), cpO_T, if_pos (by omega), cpO_o (by omega), show 64 + c - 64 = c by omega]
theorem sav_9s {σ : xS} {c : Nat} (h : c < 8) : (savM 38 σ).1 38 (72 + c) = σ.1 9 c := by
  unfold savM
  rw [xI_n (by omega), xI_n (by omega), xI_n (by omega), xI_n (by omega), xI_n (by omega), sav0_e, cpO_T, if_neg (by omega), cpO_T, if_neg (by omega), cpO_T, if_neg (by omega), cpO_T, if_neg (by omega), cpO_T, if_neg (by omega), cpO_T, if_neg (by omega), cpO_T, if_neg (by omega), cpO_T, if_neg (by omega), cpO_T, if_pos (by omega), cpO_o (by omega), cpO_o (by omega), show 72 + c - 72 = c by omega]
theorem sav_10s {σ : xS} {c : Nat} (h : c < 49) : (savM 38 σ).1 38 (80 + c) = σ.1 10 c := by
  unfold savM
  rw [xI_n (by omega), xI_n (by omega), xI_n (by omega), xI_n (by omega), xI_n (by omega), sav0_e, cpO_T, if_neg (by omega), cpO_T, if_neg (by omega), cpO_T, if_neg (by omega), cpO_T, if_neg (by omega), cpO_T, if_neg (by omega), cpO_T, if_neg (by omega), cpO_T, if_neg (by omega), cpO_T, if_pos (by omega), cpO_o (by omega), cpO_o (by omega), cpO_o (by omega), show 80 + c - 80 = c by omega]
theorem sav_11s {σ : xS} {c : Nat} (h : c < 6) : (savM 38 σ).1 38 (129 + c) = σ.1 11 c := by
  unfold savM
  rw [xI_n (by omega), xI_n (by omega), xI_n (by omega), xI_n (by omega), xI_n (by omega), sav0_e, cpO_T, if_neg (by omega), cpO_T, if_neg (by omega), cpO_T, if_neg (by omega), cpO_T, if_neg (by omega), cpO_T, if_neg (by omega), cpO_T, if_neg (by omega), cpO_T, if_pos (by omega), cpO_o (by omega), cpO_o (by omega), cpO_o (by omega), cpO_o (by omega), show 129 + c - 129 = c by omega]
theorem sav_12s {σ : xS} {c : Nat} (h : c < 6) : (savM 38 σ).1 38 (135 + c) = σ.1 12 c := by
  unfold savM
  rw [xI_n (by omega), xI_n (by omega), xI_n (by omega), xI_n (by omega), xI_n (by omega), sav0_e, cpO_T, if_neg (by omega), cpO_T, if_neg (by omega), cpO_T, if_neg (by omega), cpO_T, if_neg (by omega), cpO_T, if_neg (by omega), cpO_T, if_pos (by omega), cpO_o (by omega), cpO_o (by omega), cpO_o (by omega), cpO_o (by omega), cpO_o (by omega), show 135 + c - 135 = c by omega]
theorem sav_13s {σ : xS} {c : Nat} (h : c < 6) : (savM 38 σ).1 38 (141 + c) = σ.1 13 c := by
  unfold savM
  rw [xI_n (by omega), xI_n (by omega), xI_n (by omega), xI_n (by omega), xI_n (by omega), sav0_e, cpO_T, if_neg (by omega), cpO_T, if_neg (by omega), cpO_T, if_neg (by omega), cpO_T, if_neg (by omega), cpO_T, if_pos (by omega), cpO_o (by omega), cpO_o (by omega), cpO_o (by omega), cpO_o (by omega), cpO_o (by omega), cpO_o (by omega), show 141 + c - 141 = c by omega]
theorem sav_14s {σ : xS} {c : Nat} (h : c < 6) : (savM 38 σ).1 38 (147 + c) = σ.1 14 c := by
  unfold savM
  rw [xI_n (by omega), xI_n (by omega), xI_n (by omega), xI_n (by omega), xI_n (by omega), sav0_e, cpO_T, if_neg (by omega), cpO_T, if_neg (by omega), cpO_T, if_neg (by omega), cpO_T, if_pos (by omega), cpO_o (by omega), cpO_o (by omega), cpO_o (by omega), cpO_o (by omega), cpO_o (by omega), cpO_o (by omega), cpO_o (by omega), show 147 + c - 147 = c by omega]
theorem sav_15s {σ : xS} {c : Nat} (h : c < 6) : (savM 38 σ).1 38 (153 + c) = σ.1 15 c := by
  unfold savM
  rw [xI_n (by omega), xI_n (by omega), xI_n (by omega), xI_n (by omega), xI_n (by omega), sav0_e, cpO_T, if_neg (by omega), cpO_T, if_neg (by omega), cpO_T, if_pos (by omega), cpO_o (by omega), cpO_o (by omega), cpO_o (by omega), cpO_o (by omega), cpO_o (by omega), cpO_o (by omega), cpO_o (by omega), cpO_o (by omega), show 153 + c - 153 = c by omega]
theorem sav_16s {σ : xS} {c : Nat} (h : c < 6) : (savM 38 σ).1 38 (159 + c) = σ.1 16 c := by
  unfold savM
  rw [xI_n (by omega), xI_n (by omega), xI_n (by omega), xI_n (by omega), xI_n (by omega), sav0_e, cpO_T, if_neg (by omega), cpO_T, if_pos (by omega), cpO_o (by omega), cpO_o (by omega), cpO_o (by omega), cpO_o (by omega), cpO_o (by omega), cpO_o (by omega), cpO_o (by omega), cpO_o (by omega), cpO_o (by omega), show 159 + c - 159 = c by omega]
theorem sav_17s {σ : xS} {c : Nat} (h : c < 6) : (savM 38 σ).1 38 (165 + c) = σ.1 17 c := by
  unfold savM
  rw [xI_n (by omega), xI_n (by omega), xI_n (by omega), xI_n (by omega), xI_n (by omega), sav0_e, cpO_T, if_pos (by omega), cpO_o (by omega), cpO_o (by omega), cpO_o (by omega), cpO_o (by omega), cpO_o (by omega), cpO_o (by omega), cpO_o (by omega), cpO_o (by omega), cpO_o (by omega), cpO_o (by omega), show 165 + c - 165 = c by omega]
theorem sav_0s {σ : xS} : ∀ c, c < 5 → (savM 38 σ).1 38 (171 + c) = σ.1 0 c
  | 0, _ => by unfold savM; rw [xI_n (by omega), xI_n (by omega), xI_n (by omega), xI_n (by omega), xI_s]
  | 1, _ => by unfold savM; rw [xI_n (by omega), xI_n (by omega), xI_n (by omega), xI_s]
  | 2, _ => by unfold savM; rw [xI_n (by omega), xI_n (by omega), xI_s]
  | 3, _ => by unfold savM; rw [xI_n (by omega), xI_s]
  | 4, _ => by unfold savM; rw [xI_s]
  | n + 5, h => by omega
theorem img_TAs {B G N : Nat} {σ U : xS} (h : TA B G N σ U.1) : TA B G N σ (vwM 38 (savM 38 U)) := by
  refine TA_vb (fun c hc => sav_0s c hc) (fun c hc => ?_) (fun c hc => sav_8s hc) (fun c hc => sav_9s hc) (fun c hc => sav_10s hc) (fun a w h1 h2 hw => ?_) h
  · show (savM 38 U).1 38 c = _
    have := sav_7s (σ := U) hc
    rw [Nat.zero_add] at this
    exact this
  · rcases a1117 h1 h2 with rfl | rfl | rfl | rfl | rfl | rfl | rfl
    · exact sav_11s hw
    · exact sav_12s hw
    · exact sav_13s hw
    · exact sav_14s hw
    · exact sav_15s hw
    · exact sav_16s hw
    · exact sav_17s hw
theorem lod_TAs {B G N : Nat} {σ τ : xS} (h : TA B G N σ (vwM 38 τ)) : TA B G N σ (lodM 38 τ).1 := by
  refine TA_vb (fun c hc => lod_0 c hc) (fun c hc => ?_) (fun c hc => lod_8 (by omega) hc) (fun c hc => lod_9 (by omega) hc) (fun c hc => lod_10 (by omega) hc) (fun a w h1 h2 hw => ?_) h
  · have := lod_7 (T := 38) (σ := τ) (by omega) hc
    rw [Nat.zero_add] at this
    exact this
  · rcases a1117 h1 h2 with rfl | rfl | rfl | rfl | rfl | rfl | rfl
    · exact lod_11 (by omega) hw
    · exact lod_12 (by omega) hw
    · exact lod_13 (by omega) hw
    · exact lod_14 (by omega) hw
    · exact lod_15 (by omega) hw
    · exact lod_16 (by omega) hw
    · exact lod_17 (by omega) hw
