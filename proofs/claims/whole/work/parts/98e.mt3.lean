/-! THE REFERENCE'S READER: words, one behind another -/
theorem lW_0 : lW 0 = 1819243379 := by decide +kernel
theorem lW_1 : lW 1 = 7300710 := by decide +kernel
theorem lW_2 : lW 2 = 495873780581 := by decide +kernel
theorem lW_3 : lW 3 = 28526 := by decide +kernel
theorem lW_4 : lW 4 = 495806932324 := by decide +kernel
theorem lW_5 : lW 5 = 482905517684 := by decide +kernel
theorem lW_6 : lW 6 = 499917943912 := by decide +kernel
theorem lW_7 : lW 7 = 1953066100 := by decide +kernel
theorem lW_8 : lW 8 = 1936286821 := by decide +kernel
theorem lW_9 : lW 9 = 483006772069 := by decide +kernel
theorem lW_10 : lW 10 = 1936746862 := by decide +kernel
theorem lW_11 : lW 11 = 1818325876 := by decide +kernel
theorem lW_12 : lW 12 = 1819243380 := by decide +kernel
theorem lW_13 : lW 13 = 1836020596 := by decide +kernel
theorem lW_14 : lW 14 = 7827310 := by decide +kernel
theorem lW_15 : lW 15 = 7170414 := by decide +kernel
theorem lW_16 : lW 16 = 7168376 := by decide +kernel
theorem wd_all {T : Nat → Int} {L p : Nat} (hT : ∀ j, j < L → 0 ≤ T j ∧ T j ≤ 255) (hk : tK T L p = -2) : (WD T p (tE T L p - p) = 1819243379 ↔ tV T L p = 0) ∧ (WD T p (tE T L p - p) = 7300710 ↔ tV T L p = 1) ∧ (WD T p (tE T L p - p) = 495873780581 ↔ tV T L p = 2) ∧ (WD T p (tE T L p - p) = 28526 ↔ tV T L p = 3) ∧ (WD T p (tE T L p - p) = 495806932324 ↔ tV T L p = 4) ∧ (WD T p (tE T L p - p) = 482905517684 ↔ tV T L p = 5) ∧ (WD T p (tE T L p - p) = 499917943912 ↔ tV T L p = 6) ∧ (WD T p (tE T L p - p) = 1953066100 ↔ tV T L p = 7) ∧ (WD T p (tE T L p - p) = 1936286821 ↔ tV T L p = 8) ∧ (WD T p (tE T L p - p) = 483006772069 ↔ tV T L p = 9) ∧ (WD T p (tE T L p - p) = 1936746862 ↔ tV T L p = 10) ∧ (WD T p (tE T L p - p) = 1818325876 ↔ tV T L p = 11) ∧ (WD T p (tE T L p - p) = 1819243380 ↔ tV T L p = 12) ∧ (WD T p (tE T L p - p) = 1836020596 ↔ tV T L p = 13) ∧ (WD T p (tE T L p - p) = 7827310 ↔ tV T L p = 14) ∧ (WD T p (tE T L p - p) = 7170414 ↔ tV T L p = 15) ∧ (WD T p (tE T L p - p) = 7168376 ↔ tV T L p = 16) := by
  refine ⟨?_, ?_, ?_, ?_, ?_, ?_, ?_, ?_, ?_, ?_, ?_, ?_, ?_, ?_, ?_, ?_, ?_⟩
  · rw [← lW_0]; exact wd_eq hT hk (i := 0) (by decide)
  · rw [← lW_1]; exact wd_eq hT hk (i := 1) (by decide)
  · rw [← lW_2]; exact wd_eq hT hk (i := 2) (by decide)
  · rw [← lW_3]; exact wd_eq hT hk (i := 3) (by decide)
  · rw [← lW_4]; exact wd_eq hT hk (i := 4) (by decide)
  · rw [← lW_5]; exact wd_eq hT hk (i := 5) (by decide)
  · rw [← lW_6]; exact wd_eq hT hk (i := 6) (by decide)
  · rw [← lW_7]; exact wd_eq hT hk (i := 7) (by decide)
  · rw [← lW_8]; exact wd_eq hT hk (i := 8) (by decide)
  · rw [← lW_9]; exact wd_eq hT hk (i := 9) (by decide)
  · rw [← lW_10]; exact wd_eq hT hk (i := 10) (by decide)
  · rw [← lW_11]; exact wd_eq hT hk (i := 11) (by decide)
  · rw [← lW_12]; exact wd_eq hT hk (i := 12) (by decide)
  · rw [← lW_13]; exact wd_eq hT hk (i := 13) (by decide)
  · rw [← lW_14]; exact wd_eq hT hk (i := 14) (by decide)
  · rw [← lW_15]; exact wd_eq hT hk (i := 15) (by decide)
  · rw [← lW_16]; exact wd_eq hT hk (i := 16) (by decide)
theorem tV_in2 {T : Nat → Int} {L p : Nat} (hp : p ≤ L) (hk : tK T L p = -2) : -1 ≤ tV T L p ∧ tV T L p ≤ 16 := ⟨(tV_in hp).1, tV_word hp hk⟩
set_option maxHeartbeats 400000 in
set_option maxRecDepth 20000 in
theorem m_nameOf {sn : Nat} {sx : Nat → Int} {b : Nat} {g : am_G} {T : Nat → Int} {L p : Nat} (hR : RdM T L g) (hT : TkM T L g p) (hp : p ≤ L) : Ev sn sx 3 176 [(2, 127)] (SH b) g (fun r => (r = (some (0, tV T L p - 4), SH b, g) ∧ tK T L p = -2 ∧ 4 ≤ tV T L p ∧ tV T L p < 15) ∨ (r = (some (0, -1), SH b, g) ∧ ¬ (tK T L p = -2 ∧ 4 ≤ tV T L p ∧ tV T L p < 15))) := by
  have hto := tkM_or (p := p) hR.2.2.2
  refine ev_of (K := 2) T176 (by decide) rfl rfl (Nat.le_of_ble_eq_true rfl) ?_
  refine wp_eq (L' := [(2, 127)]) (st' := []) (g' := g) ?_
  refine wp_n 2 (pc' := 4) (L' := [(2, 127)]) (st' := [(0, (g 127 11))]) (g' := g) rfl ?_
  refine wp_eq (L' := [(2, 127)]) (st' := [(0, (tkM (tK T L p)))]) (g' := g) ?_ (by rfl) (by rw [hT.2.1]) (by rfl)
  refine wp_n 1 (pc' := 5) (L' := [(2, 127)]) (st' := [(0, 2), (0, (tkM (tK T L p)))]) (g' := g) rfl ?_
  refine wp_ic_eq rfl (fun c1 => ?_) (fun c1 => ?_)
  · have hk2 : tK T L p = -2 := by omega
    clear hto
    have hwi := wd_in hR.2.2.2 hk2
    have hv2 := tV_in2 hp hk2
    refine wp_n 2 (pc' := 14) (L' := [(2, 127)]) (st' := [(1, (g 127 13))]) (g' := g) rfl ?_
    refine wp_eq (L' := [(2, 127)]) (st' := [(1, (WD T p (tE T L p - p)))]) (g' := g) ?_ (by rfl) (by rw [hT.2.2.2.2 hk2]) (by rfl)
    refine wp_n 5 (pc' := 24) (L' := [(2, 127)]) (st' := [(0, 100), (0, 101), (0, 101), (0, 112), (0, 115), (1, (WD T p (tE T L p - p)))]) (g' := g) rfl ?_
    refine wp_cs (as := [(0, 115), (0, 112), (0, 101), (0, 101), (0, 100)]) (rest := [(1, (WD T p (tE T L p - p)))]) rfl (by decide) rfl (Nat.le_of_ble_eq_true rfl) (m_w5 (by decide) (by decide) (by decide) (by decide) (by decide)) (by decide) (fun r2 h3 => ?_)
    obtain rfl := h3
    refine wp_eq (L' := [(2, 127)]) (st' := [(1, 495806932324), (1, (WD T p (tE T L p - p)))]) (g' := g) ?_
    refine wp_lc_ne rfl rfl (by omega) (by omega) (fun c4 => ?_) (fun c4 => ?_)
    · have hv4 : tV T L p ≠ 4 := fun e => absurd ((wd_eq (i := 4) hR.2.2.2 hk2 (by decide)).mpr e) (by rw [lW_4]; omega)
      refine wp_n 2 (pc' := 37) (L' := [(2, 127)]) (st' := [(1, (g 127 13))]) (g' := g) rfl ?_
      refine wp_eq (L' := [(2, 127)]) (st' := [(1, (WD T p (tE T L p - p)))]) (g' := g) ?_ (by rfl) (by rw [hT.2.2.2.2 hk2]) (by rfl)
      refine wp_n 5 (pc' := 47) (L' := [(2, 127)]) (st' := [(0, 116), (0, 110), (0, 105), (0, 111), (0, 112), (1, (WD T p (tE T L p - p)))]) (g' := g) rfl ?_
      refine wp_cs (as := [(0, 112), (0, 111), (0, 105), (0, 110), (0, 116)]) (rest := [(1, (WD T p (tE T L p - p)))]) rfl (by decide) rfl (Nat.le_of_ble_eq_true rfl) (m_w5 (by decide) (by decide) (by decide) (by decide) (by decide)) (by decide) (fun r5 h6 => ?_)
      obtain rfl := h6
      refine wp_eq (L' := [(2, 127)]) (st' := [(1, 482905517684), (1, (WD T p (tE T L p - p)))]) (g' := g) ?_
      refine wp_lc_ne rfl rfl (by omega) (by omega) (fun c7 => ?_) (fun c7 => ?_)
      · have hv5 : tV T L p ≠ 5 := fun e => absurd ((wd_eq (i := 5) hR.2.2.2 hk2 (by decide)).mpr e) (by rw [lW_5]; omega)
        refine wp_n 2 (pc' := 60) (L' := [(2, 127)]) (st' := [(1, (g 127 13))]) (g' := g) rfl ?_
        refine wp_eq (L' := [(2, 127)]) (st' := [(1, (WD T p (tE T L p - p)))]) (g' := g) ?_ (by rfl) (by rw [hT.2.2.2.2 hk2]) (by rfl)
        refine wp_n 5 (pc' := 70) (L' := [(2, 127)]) (st' := [(0, 104), (0, 116), (0, 110), (0, 101), (0, 116), (1, (WD T p (tE T L p - p)))]) (g' := g) rfl ?_
        refine wp_cs (as := [(0, 116), (0, 101), (0, 110), (0, 116), (0, 104)]) (rest := [(1, (WD T p (tE T L p - p)))]) rfl (by decide) rfl (Nat.le_of_ble_eq_true rfl) (m_w5 (by decide) (by decide) (by decide) (by decide) (by decide)) (by decide) (fun r8 h9 => ?_)
        obtain rfl := h9
        refine wp_eq (L' := [(2, 127)]) (st' := [(1, 499917943912), (1, (WD T p (tE T L p - p)))]) (g' := g) ?_
        refine wp_lc_ne rfl rfl (by omega) (by omega) (fun c10 => ?_) (fun c10 => ?_)
        · have hv6 : tV T L p ≠ 6 := fun e => absurd ((wd_eq (i := 6) hR.2.2.2 hk2 (by decide)).mpr e) (by rw [lW_6]; omega)
          refine wp_n 2 (pc' := 83) (L' := [(2, 127)]) (st' := [(1, (g 127 13))]) (g' := g) rfl ?_
          refine wp_eq (L' := [(2, 127)]) (st' := [(1, (WD T p (tE T L p - p)))]) (g' := g) ?_ (by rfl) (by rw [hT.2.2.2.2 hk2]) (by rfl)
          refine wp_n 4 (pc' := 91) (L' := [(2, 127)]) (st' := [(0, 116), (0, 108), (0, 105), (0, 116), (1, (WD T p (tE T L p - p)))]) (g' := g) rfl ?_
          refine wp_cs (as := [(0, 116), (0, 105), (0, 108), (0, 116)]) (rest := [(1, (WD T p (tE T L p - p)))]) rfl (by decide) rfl (Nat.le_of_ble_eq_true rfl) (m_w4 (by decide) (by decide) (by decide) (by decide)) (by decide) (fun r11 h12 => ?_)
          obtain rfl := h12
          refine wp_eq (L' := [(2, 127)]) (st' := [(1, 1953066100), (1, (WD T p (tE T L p - p)))]) (g' := g) ?_
          refine wp_lc_ne rfl rfl (by omega) (by omega) (fun c13 => ?_) (fun c13 => ?_)
          · have hv7 : tV T L p ≠ 7 := fun e => absurd ((wd_eq (i := 7) hR.2.2.2 hk2 (by decide)).mpr e) (by rw [lW_7]; omega)
            refine wp_n 2 (pc' := 104) (L' := [(2, 127)]) (st' := [(1, (g 127 13))]) (g' := g) rfl ?_
            refine wp_eq (L' := [(2, 127)]) (st' := [(1, (WD T p (tE T L p - p)))]) (g' := g) ?_ (by rfl) (by rw [hT.2.2.2.2 hk2]) (by rfl)
            refine wp_n 4 (pc' := 112) (L' := [(2, 127)]) (st' := [(0, 101), (0, 100), (0, 105), (0, 115), (1, (WD T p (tE T L p - p)))]) (g' := g) rfl ?_
            refine wp_cs (as := [(0, 115), (0, 105), (0, 100), (0, 101)]) (rest := [(1, (WD T p (tE T L p - p)))]) rfl (by decide) rfl (Nat.le_of_ble_eq_true rfl) (m_w4 (by decide) (by decide) (by decide) (by decide)) (by decide) (fun r14 h15 => ?_)
            obtain rfl := h15
            refine wp_eq (L' := [(2, 127)]) (st' := [(1, 1936286821), (1, (WD T p (tE T L p - p)))]) (g' := g) ?_
            refine wp_lc_ne rfl rfl (by omega) (by omega) (fun c16 => ?_) (fun c16 => ?_)
            · have hv8 : tV T L p ≠ 8 := fun e => absurd ((wd_eq (i := 8) hR.2.2.2 hk2 (by decide)).mpr e) (by rw [lW_8]; omega)
              refine wp_n 2 (pc' := 125) (L' := [(2, 127)]) (st' := [(1, (g 127 13))]) (g' := g) rfl ?_
              refine wp_eq (L' := [(2, 127)]) (st' := [(1, (WD T p (tE T L p - p)))]) (g' := g) ?_ (by rfl) (by rw [hT.2.2.2.2 hk2]) (by rfl)
              refine wp_n 5 (pc' := 135) (L' := [(2, 127)]) (st' := [(0, 101), (0, 115), (0, 114), (0, 117), (0, 112), (1, (WD T p (tE T L p - p)))]) (g' := g) rfl ?_
              refine wp_cs (as := [(0, 112), (0, 117), (0, 114), (0, 115), (0, 101)]) (rest := [(1, (WD T p (tE T L p - p)))]) rfl (by decide) rfl (Nat.le_of_ble_eq_true rfl) (m_w5 (by decide) (by decide) (by decide) (by decide) (by decide)) (by decide) (fun r17 h18 => ?_)
              obtain rfl := h18
              refine wp_eq (L' := [(2, 127)]) (st' := [(1, 483006772069), (1, (WD T p (tE T L p - p)))]) (g' := g) ?_
              refine wp_lc_ne rfl rfl (by omega) (by omega) (fun c19 => ?_) (fun c19 => ?_)
              · have hv9 : tV T L p ≠ 9 := fun e => absurd ((wd_eq (i := 9) hR.2.2.2 hk2 (by decide)).mpr e) (by rw [lW_9]; omega)
                refine wp_n 2 (pc' := 148) (L' := [(2, 127)]) (st' := [(1, (g 127 13))]) (g' := g) rfl ?_
                refine wp_eq (L' := [(2, 127)]) (st' := [(1, (WD T p (tE T L p - p)))]) (g' := g) ?_ (by rfl) (by rw [hT.2.2.2.2 hk2]) (by rfl)
                refine wp_n 4 (pc' := 156) (L' := [(2, 127)]) (st' := [(0, 110), (0, 105), (0, 112), (0, 115), (1, (WD T p (tE T L p - p)))]) (g' := g) rfl ?_
                refine wp_cs (as := [(0, 115), (0, 112), (0, 105), (0, 110)]) (rest := [(1, (WD T p (tE T L p - p)))]) rfl (by decide) rfl (Nat.le_of_ble_eq_true rfl) (m_w4 (by decide) (by decide) (by decide) (by decide)) (by decide) (fun r20 h21 => ?_)
                obtain rfl := h21
                refine wp_eq (L' := [(2, 127)]) (st' := [(1, 1936746862), (1, (WD T p (tE T L p - p)))]) (g' := g) ?_
                refine wp_lc_ne rfl rfl (by omega) (by omega) (fun c22 => ?_) (fun c22 => ?_)
                · have hv10 : tV T L p ≠ 10 := fun e => absurd ((wd_eq (i := 10) hR.2.2.2 hk2 (by decide)).mpr e) (by rw [lW_10]; omega)
                  refine wp_n 2 (pc' := 170) (L' := [(2, 127)]) (st' := [(1, (g 127 13))]) (g' := g) rfl ?_
                  refine wp_eq (L' := [(2, 127)]) (st' := [(1, (WD T p (tE T L p - p)))]) (g' := g) ?_ (by rfl) (by rw [hT.2.2.2.2 hk2]) (by rfl)
                  refine wp_n 4 (pc' := 178) (L' := [(2, 127)]) (st' := [(0, 116), (0, 115), (0, 97), (0, 108), (1, (WD T p (tE T L p - p)))]) (g' := g) rfl ?_
                  refine wp_cs (as := [(0, 108), (0, 97), (0, 115), (0, 116)]) (rest := [(1, (WD T p (tE T L p - p)))]) rfl (by decide) rfl (Nat.le_of_ble_eq_true rfl) (m_w4 (by decide) (by decide) (by decide) (by decide)) (by decide) (fun r23 h24 => ?_)
                  obtain rfl := h24
                  refine wp_eq (L' := [(2, 127)]) (st' := [(1, 1818325876), (1, (WD T p (tE T L p - p)))]) (g' := g) ?_
                  refine wp_lc_ne rfl rfl (by omega) (by omega) (fun c25 => ?_) (fun c25 => ?_)
                  · have hv11 : tV T L p ≠ 11 := fun e => absurd ((wd_eq (i := 11) hR.2.2.2 hk2 (by decide)).mpr e) (by rw [lW_11]; omega)
                    refine wp_n 2 (pc' := 192) (L' := [(2, 127)]) (st' := [(1, (g 127 13))]) (g' := g) rfl ?_
                    refine wp_eq (L' := [(2, 127)]) (st' := [(1, (WD T p (tE T L p - p)))]) (g' := g) ?_ (by rfl) (by rw [hT.2.2.2.2 hk2]) (by rfl)
                    refine wp_n 4 (pc' := 200) (L' := [(2, 127)]) (st' := [(0, 116), (0, 115), (0, 111), (0, 108), (1, (WD T p (tE T L p - p)))]) (g' := g) rfl ?_
                    refine wp_cs (as := [(0, 108), (0, 111), (0, 115), (0, 116)]) (rest := [(1, (WD T p (tE T L p - p)))]) rfl (by decide) rfl (Nat.le_of_ble_eq_true rfl) (m_w4 (by decide) (by decide) (by decide) (by decide)) (by decide) (fun r26 h27 => ?_)
                    obtain rfl := h27
                    refine wp_eq (L' := [(2, 127)]) (st' := [(1, 1819243380), (1, (WD T p (tE T L p - p)))]) (g' := g) ?_
                    refine wp_lc_ne rfl rfl (by omega) (by omega) (fun c28 => ?_) (fun c28 => ?_)
                    · have hv12 : tV T L p ≠ 12 := fun e => absurd ((wd_eq (i := 12) hR.2.2.2 hk2 (by decide)).mpr e) (by rw [lW_12]; omega)
                      refine wp_n 2 (pc' := 214) (L' := [(2, 127)]) (st' := [(1, (g 127 13))]) (g' := g) rfl ?_
                      refine wp_eq (L' := [(2, 127)]) (st' := [(1, (WD T p (tE T L p - p)))]) (g' := g) ?_ (by rfl) (by rw [hT.2.2.2.2 hk2]) (by rfl)
                      refine wp_n 4 (pc' := 222) (L' := [(2, 127)]) (st' := [(0, 116), (0, 115), (0, 111), (0, 109), (1, (WD T p (tE T L p - p)))]) (g' := g) rfl ?_
                      refine wp_cs (as := [(0, 109), (0, 111), (0, 115), (0, 116)]) (rest := [(1, (WD T p (tE T L p - p)))]) rfl (by decide) rfl (Nat.le_of_ble_eq_true rfl) (m_w4 (by decide) (by decide) (by decide) (by decide)) (by decide) (fun r29 h30 => ?_)
                      obtain rfl := h30
                      refine wp_eq (L' := [(2, 127)]) (st' := [(1, 1836020596), (1, (WD T p (tE T L p - p)))]) (g' := g) ?_
                      refine wp_lc_ne rfl rfl (by omega) (by omega) (fun c31 => ?_) (fun c31 => ?_)
                      · have hv13 : tV T L p ≠ 13 := fun e => absurd ((wd_eq (i := 13) hR.2.2.2 hk2 (by decide)).mpr e) (by rw [lW_13]; omega)
                        refine wp_n 2 (pc' := 238) (L' := [(2, 127)]) (st' := [(1, (g 127 13))]) (g' := g) rfl ?_
                        refine wp_eq (L' := [(2, 127)]) (st' := [(1, (WD T p (tE T L p - p)))]) (g' := g) ?_ (by rfl) (by rw [hT.2.2.2.2 hk2]) (by rfl)
                        refine wp_n 3 (pc' := 244) (L' := [(2, 127)]) (st' := [(0, 110), (0, 111), (0, 119), (1, (WD T p (tE T L p - p)))]) (g' := g) rfl ?_
                        refine wp_cs (as := [(0, 119), (0, 111), (0, 110)]) (rest := [(1, (WD T p (tE T L p - p)))]) rfl (by decide) rfl (Nat.le_of_ble_eq_true rfl) (m_w3 (by decide) (by decide) (by decide)) (by decide) (fun r32 h33 => ?_)
                        obtain rfl := h33
                        refine wp_eq (L' := [(2, 127)]) (st' := [(1, 7827310), (1, (WD T p (tE T L p - p)))]) (g' := g) ?_
                        refine wp_lc_ne rfl rfl (by omega) (by omega) (fun c34 => ?_) (fun c34 => ?_)
                        · have hv14 : tV T L p ≠ 14 := fun e => absurd ((wd_eq (i := 14) hR.2.2.2 hk2 (by decide)).mpr e) (by rw [lW_14]; omega)
                          refine wp_n 1 (pc' := 257) (L' := [(2, 127)]) (st' := [(0, (-1))]) (g' := g) rfl ?_
                          exact wp_ret rfl rfl rfl (Or.inr ⟨rfl, by omega⟩)
                        · have hv14 : tV T L p = 14 := (wd_eq (i := 14) hR.2.2.2 hk2 (by decide)).mp (by rw [lW_14]; omega)
                          refine wp_n 2 (pc' := 257) (L' := [(2, 127)]) (st' := [(0, 10)]) (g' := g) rfl ?_
                          exact wp_ret rfl rfl rfl (Or.inl ⟨by rw [show tV T L p - 4 = 10 by omega], by omega, by omega⟩)
                      · have hv13 : tV T L p = 13 := (wd_eq (i := 13) hR.2.2.2 hk2 (by decide)).mp (by rw [lW_13]; omega)
                        refine wp_n 2 (pc' := 257) (L' := [(2, 127)]) (st' := [(0, 9)]) (g' := g) rfl ?_
                        exact wp_ret rfl rfl rfl (Or.inl ⟨by rw [show tV T L p - 4 = 9 by omega], by omega, by omega⟩)
                    · have hv12 : tV T L p = 12 := (wd_eq (i := 12) hR.2.2.2 hk2 (by decide)).mp (by rw [lW_12]; omega)
                      refine wp_n 1 (pc' := 209) (L' := [(2, 127)]) (st' := [(0, 8)]) (g' := g) rfl ?_
                      exact wp_ret rfl rfl rfl (Or.inl ⟨by rw [show tV T L p - 4 = 8 by omega], by omega, by omega⟩)
                  · have hv11 : tV T L p = 11 := (wd_eq (i := 11) hR.2.2.2 hk2 (by decide)).mp (by rw [lW_11]; omega)
                    refine wp_n 1 (pc' := 187) (L' := [(2, 127)]) (st' := [(0, 7)]) (g' := g) rfl ?_
                    exact wp_ret rfl rfl rfl (Or.inl ⟨by rw [show tV T L p - 4 = 7 by omega], by omega, by omega⟩)
                · have hv10 : tV T L p = 10 := (wd_eq (i := 10) hR.2.2.2 hk2 (by decide)).mp (by rw [lW_10]; omega)
                  refine wp_n 1 (pc' := 165) (L' := [(2, 127)]) (st' := [(0, 6)]) (g' := g) rfl ?_
                  exact wp_ret rfl rfl rfl (Or.inl ⟨by rw [show tV T L p - 4 = 6 by omega], by omega, by omega⟩)
              · have hv9 : tV T L p = 9 := (wd_eq (i := 9) hR.2.2.2 hk2 (by decide)).mp (by rw [lW_9]; omega)
                refine wp_n 1 (pc' := 143) (L' := [(2, 127)]) (st' := [(0, 5)]) (g' := g) rfl ?_
                exact wp_ret rfl rfl rfl (Or.inl ⟨by rw [show tV T L p - 4 = 5 by omega], by omega, by omega⟩)
            · have hv8 : tV T L p = 8 := (wd_eq (i := 8) hR.2.2.2 hk2 (by decide)).mp (by rw [lW_8]; omega)
              refine wp_n 1 (pc' := 120) (L' := [(2, 127)]) (st' := [(0, 4)]) (g' := g) rfl ?_
              exact wp_ret rfl rfl rfl (Or.inl ⟨by rw [show tV T L p - 4 = 4 by omega], by omega, by omega⟩)
          · have hv7 : tV T L p = 7 := (wd_eq (i := 7) hR.2.2.2 hk2 (by decide)).mp (by rw [lW_7]; omega)
            refine wp_n 1 (pc' := 99) (L' := [(2, 127)]) (st' := [(0, 3)]) (g' := g) rfl ?_
            exact wp_ret rfl rfl rfl (Or.inl ⟨by rw [show tV T L p - 4 = 3 by omega], by omega, by omega⟩)
        · have hv6 : tV T L p = 6 := (wd_eq (i := 6) hR.2.2.2 hk2 (by decide)).mp (by rw [lW_6]; omega)
          refine wp_n 1 (pc' := 78) (L' := [(2, 127)]) (st' := [(0, 2)]) (g' := g) rfl ?_
          exact wp_ret rfl rfl rfl (Or.inl ⟨by rw [show tV T L p - 4 = 2 by omega], by omega, by omega⟩)
      · have hv5 : tV T L p = 5 := (wd_eq (i := 5) hR.2.2.2 hk2 (by decide)).mp (by rw [lW_5]; omega)
        refine wp_n 1 (pc' := 55) (L' := [(2, 127)]) (st' := [(0, 1)]) (g' := g) rfl ?_
        exact wp_ret rfl rfl rfl (Or.inl ⟨by rw [show tV T L p - 4 = 1 by omega], by omega, by omega⟩)
    · have hv4 : tV T L p = 4 := (wd_eq (i := 4) hR.2.2.2 hk2 (by decide)).mp (by rw [lW_4]; omega)
      refine wp_n 1 (pc' := 32) (L' := [(2, 127)]) (st' := [(0, 0)]) (g' := g) rfl ?_
      exact wp_ret rfl rfl rfl (Or.inl ⟨by rw [show tV T L p - 4 = 0 by omega], by omega, by omega⟩)
  · refine wp_n 1 (pc' := 9) (L' := [(2, 127)]) (st' := [(0, (-1))]) (g' := g) rfl ?_
    exact wp_ret rfl rfl rfl (Or.inr ⟨rfl, by omega⟩)
set_option maxHeartbeats 400000 in
set_option maxRecDepth 20000 in
theorem m_isWord {sn : Nat} {sx : Nat → Int} {b : Nat} {g : am_G} {T : Nat → Int} {L p : Nat} {W : Int} (hR : RdM T L g) (hT : TkM T L g p) (hW : 0 ≤ W ∧ W < 72057594037927936) : Ev sn sx 1 171 [(2, 127), (1, W)] (SH b) g (fun r => Is1 r (SH b) g (tK T L p = -2 ∧ WD T p (tE T L p - p) = W)) := by
  have hto := tkM_or (p := p) hR.2.2.2
  refine ev_of (K := 0) T171 (by decide) rfl rfl (Nat.le_of_ble_eq_true rfl) ?_
  refine wp_eq (L' := [(2, 127), (1, W), (9, 0)]) (st' := []) (g' := g) ?_
  refine wp_n 2 (pc' := 4) (L' := [(2, 127), (1, W), (9, 0)]) (st' := [(0, (g 127 11))]) (g' := g) rfl ?_
  refine wp_eq (L' := [(2, 127), (1, W), (9, 0)]) (st' := [(0, (tkM (tK T L p)))]) (g' := g) ?_ (by rfl) (by rw [hT.2.1]) (by rfl)
  refine wp_n 1 (pc' := 5) (L' := [(2, 127), (1, W), (9, 0)]) (st' := [(0, 2), (0, (tkM (tK T L p)))]) (g' := g) rfl ?_
  refine wp_ic_ne rfl (fun c1 => ?_) (fun c1 => ?_)
  · refine wp_n 1 (pc' := 22) (L' := [(2, 127), (1, W), (9, 0)]) (st' := [(0, 0)]) (g' := g) rfl ?_
    exact wp_ret rfl rfl rfl (Or.inr ⟨rfl, by omega⟩)
  · have hwi := wd_in hR.2.2.2 (show tK T L p = -2 by omega)
    refine wp_n 2 (pc' := 12) (L' := [(2, 127), (1, W), (9, 0)]) (st' := [(1, (g 127 13))]) (g' := g) rfl ?_
    refine wp_eq (L' := [(2, 127), (1, W), (9, 0)]) (st' := [(1, (WD T p (tE T L p - p)))]) (g' := g) ?_ (by rfl) (by rw [hT.2.2.2.2 (by omega)]) (by rfl)
    refine wp_n 1 (pc' := 13) (L' := [(2, 127), (1, W), (9, 0)]) (st' := [(1, W), (1, (WD T p (tE T L p - p)))]) (g' := g) rfl ?_
    refine wp_lc_ne rfl rfl (by omega) (by omega) (fun c2 => ?_) (fun c2 => ?_)
    · refine wp_n 1 (pc' := 22) (L' := [(2, 127), (1, W), (9, 0)]) (st' := [(0, 0)]) (g' := g) rfl ?_
      exact wp_ret rfl rfl rfl (Or.inr ⟨rfl, by omega⟩)
    · refine wp_n 2 (pc' := 22) (L' := [(2, 127), (1, W), (9, 0)]) (st' := [(0, 1)]) (g' := g) rfl ?_
      exact wp_ret rfl rfl rfl (Or.inl ⟨rfl, by omega, by omega⟩)
theorem m_nextTk {sn : Nat} {sx : Nat → Int} {b : Nat} {g : am_G} {T : Nat → Int} {L p : Nat} (hR : RdM T L g) (hT : TkM T L g p) (hp : p ≤ L) : Ev sn sx 3 167 [(2, 127)] (SH b) g (fun r => ∃ g', r = (none, SH b, g') ∧ TkM T L g' (nx T L p) ∧ FrTm g g') := m_nextToken hR hT.2.2.1 (tE_in hp).2.1
set_option maxHeartbeats 400000 in
set_option maxRecDepth 20000 in
theorem m_opener {sn : Nat} {sx : Nat → Int} {b : Nat} {g : am_G} {T : Nat → Int} {L p : Nat} (hR : RdM T L g) (hT : TkM T L g p) (hp : p ≤ L) : Ev sn sx 4 177 [(2, 127)] (SH b) g (fun r => (∃ g', r = (some (0, 40), SH b, g') ∧ tK T L p = 40 ∧ FrTm g g' ∧ TkM T L g' p) ∨ (∃ g', r = (some (0, 2), SH b, g') ∧ tK T L p = 45 ∧ FrTm g g' ∧ TkM T L g' p) ∨ (∃ g', r = (some (0, ((mnx (tV T L p) : Nat) : Int)), SH b, g') ∧ tK T L p = -2 ∧ 15 ≤ tV T L p ∧ FrTm g g' ∧ TkM T L g' (nx T L p)) ∨ (∃ g', r = (some (0, 0), SH b, g') ∧ tK T L p ≠ 40 ∧ tK T L p ≠ 45 ∧ ¬ (tK T L p = -2 ∧ 15 ≤ tV T L p) ∧ FrTm g g' ∧ TkM T L g' p)) := by
  have hto := tkM_or (p := p) hR.2.2.2
  have hvw : tK T L p = -2 → tV T L p ≤ 16 := tV_word hp
  have hwl : tK T L p = -2 → (WD T p (tE T L p - p) = 7170414 ↔ tV T L p = 15) ∧ (WD T p (tE T L p - p) = 7168376 ↔ tV T L p = 16) := fun q => ⟨(wd_all hR.2.2.2 q).2.2.2.2.2.2.2.2.2.2.2.2.2.2.2.1, (wd_all hR.2.2.2 q).2.2.2.2.2.2.2.2.2.2.2.2.2.2.2.2⟩
  refine ev_of (K := 3) T177 (by decide) rfl rfl (Nat.le_of_ble_eq_true rfl) ?_
  refine wp_eq (L' := [(2, 127), (9, 0)]) (st' := []) (g' := g) ?_
  refine wp_n 2 (pc' := 4) (L' := [(2, 127), (9, 0)]) (st' := [(0, (g 127 11))]) (g' := g) rfl ?_
  refine wp_eq (L' := [(2, 127), (9, 0)]) (st' := [(0, (tkM (tK T L p)))]) (g' := g) ?_ (by rfl) (by rw [hT.2.1]) (by rfl)
  refine wp_n 1 (pc' := 6) (L' := [(2, 127), (9, 0)]) (st' := [(0, 40), (0, (tkM (tK T L p)))]) (g' := g) rfl ?_
  refine wp_ic_ne rfl (fun c1 => ?_) (fun c1 => ?_)
  · refine wp_n 2 (pc' := 16) (L' := [(2, 127), (9, 0)]) (st' := [(0, (g 127 11))]) (g' := g) rfl ?_
    refine wp_eq (L' := [(2, 127), (9, 0)]) (st' := [(0, (tkM (tK T L p)))]) (g' := g) ?_ (by rfl) (by rw [hT.2.1]) (by rfl)
    refine wp_n 1 (pc' := 18) (L' := [(2, 127), (9, 0)]) (st' := [(0, 45), (0, (tkM (tK T L p)))]) (g' := g) rfl ?_
    refine wp_ic_ne rfl (fun c2 => ?_) (fun c2 => ?_)
    · refine wp_n 4 (pc' := 30) (L' := [(2, 127), (9, 0)]) (st' := [(0, 110), (0, 105), (0, 109), (2, 127)]) (g' := g) rfl ?_
      refine wp_cs (as := [(0, 109), (0, 105), (0, 110)]) (rest := [(2, 127)]) rfl (by decide) rfl (Nat.le_of_ble_eq_true rfl) (m_w3 (by decide) (by decide) (by decide)) (by decide) (fun r3 h4 => ?_)
      obtain rfl := h4
      refine wp_eq (L' := [(2, 127), (9, 0)]) (st' := [(1, 7170414), (2, 127)]) (g' := g) ?_
      refine wp_cv (as := [(2, 127), (1, 7170414)]) (rest := []) rfl rfl rfl (Nat.le_of_ble_eq_true rfl) rfl (m_isWord (T := T) (L := L) (p := p) hR hT (by decide)) (by decide) (fun r5 h6 => ?_)
      rcases h6 with ⟨rfl, p33⟩ | ⟨rfl, p33⟩
      · have hv33 : tV T L p = 15 := (hwl p33.1).1.mp p33.2
        refine wp_eq (L' := [(2, 127), (9, 0)]) (st' := [(0, 1)]) (g' := g) ?_
        refine wp_n 7 (pc' := 72) (L' := [(2, 127), (0, 41)]) (st' := [(2, 127)]) (g' := g) rfl ?_
        refine wp_cv (as := [(2, 127)]) (rest := []) rfl rfl rfl (Nat.le_of_ble_eq_true rfl) rfl (m_nextTk (T := T) (L := L) hR hT hp) (by decide) (fun r7 h8 => ?_)
        obtain ⟨g72, rfl, hT72, hF72⟩ := h8
        refine wp_eq (L' := [(2, 127), (0, 41)]) (st' := []) (g' := g72) ?_
        refine wp_n 1 (pc' := 76) (L' := [(2, 127), (0, 41)]) (st' := [(0, 41)]) (g' := g72) rfl ?_
        exact wp_ret rfl rfl rfl (Or.inr (Or.inr (Or.inl ⟨_, by rw [show mnx (tV T L p) = 41 from by unfold mnx; first | rw [if_pos (by omega)] | rw [if_neg (by omega)]]; rfl, by omega, by omega, hF72, hT72⟩)))
      · have hv33 : tK T L p = -2 → tV T L p ≠ 15 := fun q e => p33 ⟨q, (hwl q).1.mpr e⟩
        refine wp_eq (L' := [(2, 127), (9, 0)]) (st' := [(0, 0)]) (g' := g) ?_
        refine wp_n 5 (pc' := 51) (L' := [(2, 127), (9, 0)]) (st' := [(0, 120), (0, 97), (0, 109), (2, 127)]) (g' := g) rfl ?_
        refine wp_cs (as := [(0, 109), (0, 97), (0, 120)]) (rest := [(2, 127)]) rfl (by decide) rfl (Nat.le_of_ble_eq_true rfl) (m_w3 (by decide) (by decide) (by decide)) (by decide) (fun r9 h10 => ?_)
        obtain rfl := h10
        refine wp_eq (L' := [(2, 127), (9, 0)]) (st' := [(1, 7168376), (2, 127)]) (g' := g) ?_
        refine wp_cv (as := [(2, 127), (1, 7168376)]) (rest := []) rfl rfl rfl (Nat.le_of_ble_eq_true rfl) rfl (m_isWord (T := T) (L := L) (p := p) hR hT (by decide)) (by decide) (fun r11 h12 => ?_)
        rcases h12 with ⟨rfl, p54⟩ | ⟨rfl, p54⟩
        · have hv54 : tV T L p = 16 := (hwl p54.1).2.mp p54.2
          refine wp_eq (L' := [(2, 127), (9, 0)]) (st' := [(0, 1)]) (g' := g) ?_
          refine wp_n 7 (pc' := 72) (L' := [(2, 127), (0, 42)]) (st' := [(2, 127)]) (g' := g) rfl ?_
          refine wp_cv (as := [(2, 127)]) (rest := []) rfl rfl rfl (Nat.le_of_ble_eq_true rfl) rfl (m_nextTk (T := T) (L := L) hR hT hp) (by decide) (fun r13 h14 => ?_)
          obtain ⟨g72, rfl, hT72, hF72⟩ := h14
          refine wp_eq (L' := [(2, 127), (0, 42)]) (st' := []) (g' := g72) ?_
          refine wp_n 1 (pc' := 76) (L' := [(2, 127), (0, 42)]) (st' := [(0, 42)]) (g' := g72) rfl ?_
          exact wp_ret rfl rfl rfl (Or.inr (Or.inr (Or.inl ⟨_, by rw [show mnx (tV T L p) = 42 from by unfold mnx; first | rw [if_pos (by omega)] | rw [if_neg (by omega)]]; rfl, by omega, by omega, hF72, hT72⟩)))
        · have hv54 : tK T L p = -2 → tV T L p ≠ 16 := fun q e => p54 ⟨q, (hwl q).2.mpr e⟩
          refine wp_eq (L' := [(2, 127), (9, 0)]) (st' := [(0, 0)]) (g' := g) ?_
          refine wp_n 6 (pc' := 76) (L' := [(2, 127), (0, 0)]) (st' := [(0, 0)]) (g' := g) rfl ?_
          exact wp_ret rfl rfl rfl (Or.inr (Or.inr (Or.inr ⟨_, rfl, by omega, by omega, by omega, FrTm.rfl, hT⟩)))
    · refine wp_n 1 (pc' := 22) (L' := [(2, 127), (9, 0)]) (st' := [(0, 2)]) (g' := g) rfl ?_
      exact wp_ret rfl rfl rfl (Or.inr (Or.inl ⟨_, rfl, by omega, FrTm.rfl, hT⟩))
  · refine wp_n 1 (pc' := 11) (L' := [(2, 127), (9, 0)]) (st' := [(0, 40)]) (g' := g) rfl ?_
    exact wp_ret rfl rfl rfl (Or.inl ⟨_, rfl, by omega, FrTm.rfl, hT⟩)
