theorem aM_6 : xar WM 6 0 = True := eq_true ⟨by decide, by decide⟩
theorem lM_6 : WM.2.2.1 6 = 8 := rfl
theorem aM_7 : xar WM 7 0 = True := eq_true ⟨by decide, by decide⟩
theorem lM_7 : WM.2.2.1 7 = 64 := rfl
theorem aM_8 : xar WM 8 0 = True := eq_true ⟨by decide, by decide⟩
theorem lM_8 : WM.2.2.1 8 = 8 := rfl
theorem aM_9 : xar WM 9 0 = True := eq_true ⟨by decide, by decide⟩
theorem lM_9 : WM.2.2.1 9 = 8 := rfl
theorem aM_10 : xar WM 10 0 = True := eq_true ⟨by decide, by decide⟩
theorem lM_10 : WM.2.2.1 10 = 49 := rfl
theorem aM_11 : xar WM 11 0 = True := eq_true ⟨by decide, by decide⟩
theorem lM_11 : WM.2.2.1 11 = 6 := rfl
theorem aM_12 : xar WM 12 0 = True := eq_true ⟨by decide, by decide⟩
theorem lM_12 : WM.2.2.1 12 = 6 := rfl
theorem aM_13 : xar WM 13 0 = True := eq_true ⟨by decide, by decide⟩
theorem lM_13 : WM.2.2.1 13 = 6 := rfl
theorem aM_14 : xar WM 14 0 = True := eq_true ⟨by decide, by decide⟩
theorem lM_14 : WM.2.2.1 14 = 6 := rfl
theorem aM_15 : xar WM 15 0 = True := eq_true ⟨by decide, by decide⟩
theorem lM_15 : WM.2.2.1 15 = 6 := rfl
theorem aM_16 : xar WM 16 0 = True := eq_true ⟨by decide, by decide⟩
theorem lM_16 : WM.2.2.1 16 = 6 := rfl
theorem aM_17 : xar WM 17 0 = True := eq_true ⟨by decide, by decide⟩
theorem lM_17 : WM.2.2.1 17 = 6 := rfl
theorem aM_18 : xar WM 18 0 = True := eq_true ⟨by decide, by decide⟩
theorem lM_18 : WM.2.2.1 18 = 6 := rfl
theorem aM_19 : xar WM 19 0 = True := eq_true ⟨by decide, by decide⟩
theorem lM_19 : WM.2.2.1 19 = 6 := rfl
theorem aM_20 : xar WM 20 0 = True := eq_true ⟨by decide, by decide⟩
theorem lM_20 : WM.2.2.1 20 = 6 := rfl
theorem aM_21 : xar WM 21 0 = True := eq_true ⟨by decide, by decide⟩
theorem lM_21 : WM.2.2.1 21 = 6 := rfl
theorem aM_22 : xar WM 22 0 = True := eq_true ⟨by decide, by decide⟩
theorem lM_22 : WM.2.2.1 22 = 6 := rfl
theorem aM_23 : xar WM 23 0 = True := eq_true ⟨by decide, by decide⟩
theorem lM_23 : WM.2.2.1 23 = 8 := rfl
theorem aM_24 : xar WM 24 0 = True := eq_true ⟨by decide, by decide⟩
theorem lM_24 : WM.2.2.1 24 = 8 := rfl
theorem aM_25 : xar WM 25 0 = True := eq_true ⟨by decide, by decide⟩
theorem lM_25 : WM.2.2.1 25 = 8 := rfl
theorem aM_26 : xar WM 26 0 = True := eq_true ⟨by decide, by decide⟩
theorem lM_26 : WM.2.2.1 26 = 8 := rfl
theorem aM_27 : xar WM 27 1 = True := eq_true ⟨by decide, by decide⟩
theorem lM_27 : WM.2.2.1 27 = 1280 := rfl
theorem aM_28 : xar WM 28 1 = True := eq_true ⟨by decide, by decide⟩
theorem lM_28 : WM.2.2.1 28 = 160 := rfl
theorem aM_29 : xar WM 29 0 = True := eq_true ⟨by decide, by decide⟩
theorem lM_29 : WM.2.2.1 29 = 32 := rfl
theorem aM_30 : xar WM 30 0 = True := eq_true ⟨by decide, by decide⟩
theorem lM_30 : WM.2.2.1 30 = 5 := rfl
theorem aM_31 : xar WM 31 0 = True := eq_true ⟨by decide, by decide⟩
theorem lM_31 : WM.2.2.1 31 = 8 := rfl
theorem aM_38 : xar WM 38 0 = True := eq_true ⟨by decide, by decide⟩
theorem lM_38 : WM.2.2.1 38 = 200 := rfl
theorem aM_39 : xar WM 39 0 = True := eq_true ⟨by decide, by decide⟩
theorem lM_39 : WM.2.2.1 39 = 200 := rfl
theorem aM_40 : xar WM 40 0 = True := eq_true ⟨by decide, by decide⟩
theorem lM_40 : WM.2.2.1 40 = 6 := rfl
theorem aM_41 : xar WM 41 0 = True := eq_true ⟨by decide, by decide⟩
theorem lM_41 : WM.2.2.1 41 = 6 := rfl
theorem aM_42 : xar WM 42 0 = True := eq_true ⟨by decide, by decide⟩
theorem lM_42 : WM.2.2.1 42 = 6 := rfl
theorem aM_43 : xar WM 43 0 = True := eq_true ⟨by decide, by decide⟩
theorem lM_43 : WM.2.2.1 43 = 6 := rfl
theorem aM_44 : xar WM 44 0 = True := eq_true ⟨by decide, by decide⟩
theorem lM_44 : WM.2.2.1 44 = 6 := rfl
theorem aM_45 : xar WM 45 1 = True := eq_true ⟨by decide, by decide⟩
theorem lM_45 : WM.2.2.1 45 = 401 := rfl
theorem aM_46 : xar WM 46 1 = True := eq_true ⟨by decide, by decide⟩
theorem lM_46 : WM.2.2.1 46 = 401 := rfl
theorem aM_47 : xar WM 47 0 = True := eq_true ⟨by decide, by decide⟩
theorem lM_47 : WM.2.2.1 47 = 20 := rfl
