theorem ch0_1 {o : Nat} (h : isO 0 o) : rf o 1 = some (1) ∧ isO 2 (1) := by
  exact ⟨by simp [rf, h.2], by decide⟩
theorem ch0_2 {o : Nat} (h : isO 0 o) : rf o 2 = some (o + 1) ∧ isO 3 (o + 1) := by
  have hh : ∀ o, o < 874 → kd o = 0 → isO 3 (o + 1) := by decide +kernel
  exact ⟨by simp [rf, h.2], hh o h.1 h.2⟩
theorem ch0_3 {o : Nat} (h : isO 0 o) : rf o 3 = some (o + 123) ∧ isO 1 (o + 123) := by
  have hh : ∀ o, o < 874 → kd o = 0 → isO 1 (o + 123) := by decide +kernel
  exact ⟨by simp [rf, h.2], hh o h.1 h.2⟩
theorem ch0_4 {o : Nat} (h : isO 0 o) : rf o 4 = some (o + 140) ∧ isO 7 (o + 140) := by
  have hh : ∀ o, o < 874 → kd o = 0 → isO 7 (o + 140) := by decide +kernel
  exact ⟨by simp [rf, h.2], hh o h.1 h.2⟩
theorem ch0_5 {o : Nat} (h : isO 0 o) : rf o 5 = some (o + 143) ∧ isO 6 (o + 143) := by
  have hh : ∀ o, o < 874 → kd o = 0 → isO 6 (o + 143) := by decide +kernel
  exact ⟨by simp [rf, h.2], hh o h.1 h.2⟩
theorem ch0_6 {o : Nat} (h : isO 0 o) : rf o 6 = some (o + 145) ∧ isO 8 (o + 145) := by
  have hh : ∀ o, o < 874 → kd o = 0 → isO 8 (o + 145) := by decide +kernel
  exact ⟨by simp [rf, h.2], hh o h.1 h.2⟩
theorem ch1_0 {o : Nat} (h : isO 1 o) : rf o 0 = some (o + 1) ∧ isO 16 (o + 1) ∧ sz (o + 1) = 8 := by
  have hh : ∀ o, o < 874 → kd o = 1 → isO 16 (o + 1) ∧ sz (o + 1) = 8 := by decide +kernel
  exact ⟨by simp [rf, h.2], hh o h.1 h.2⟩
theorem ch1_1 {o : Nat} (h : isO 1 o) : rf o 1 = some (o + 10) ∧ isO 11 (o + 10) ∧ sz (o + 10) = 8 := by
  have hh : ∀ o, o < 874 → kd o = 1 → isO 11 (o + 10) ∧ sz (o + 10) = 8 := by decide +kernel
  exact ⟨by simp [rf, h.2], hh o h.1 h.2⟩
theorem ch1_2 {o : Nat} (h : isO 1 o) : rf o 2 = some (o + 11) ∧ isO 12 (o + 11) ∧ sz (o + 11) = 8 := by
  have hh : ∀ o, o < 874 → kd o = 1 → isO 12 (o + 11) ∧ sz (o + 11) = 8 := by decide +kernel
  exact ⟨by simp [rf, h.2], hh o h.1 h.2⟩
theorem ch1_3 {o : Nat} (h : isO 1 o) : rf o 3 = some (o + 12) ∧ isO 12 (o + 12) ∧ sz (o + 12) = 8 := by
  have hh : ∀ o, o < 874 → kd o = 1 → isO 12 (o + 12) ∧ sz (o + 12) = 8 := by decide +kernel
  exact ⟨by simp [rf, h.2], hh o h.1 h.2⟩
theorem ch1_4 {o : Nat} (h : isO 1 o) : rf o 4 = some (o + 13) ∧ isO 11 (o + 13) ∧ sz (o + 13) = 256 := by
  have hh : ∀ o, o < 874 → kd o = 1 → isO 11 (o + 13) ∧ sz (o + 13) = 256 := by decide +kernel
  exact ⟨by simp [rf, h.2], hh o h.1 h.2⟩
theorem ch1_5 {o : Nat} (h : isO 1 o) : rf o 5 = some (o + 14) ∧ isO 11 (o + 14) ∧ sz (o + 14) = 32 := by
  have hh : ∀ o, o < 874 → kd o = 1 → isO 11 (o + 14) ∧ sz (o + 14) = 32 := by decide +kernel
  exact ⟨by simp [rf, h.2], hh o h.1 h.2⟩
theorem ch1_6 {o : Nat} (h : isO 1 o) : rf o 6 = some (o + 15) ∧ isO 11 (o + 15) ∧ sz (o + 15) = 32 := by
  have hh : ∀ o, o < 874 → kd o = 1 → isO 11 (o + 15) ∧ sz (o + 15) = 32 := by decide +kernel
  exact ⟨by simp [rf, h.2], hh o h.1 h.2⟩
theorem ch1_7 {o : Nat} (h : isO 1 o) : rf o 7 = some (o + 16) ∧ isO 11 (o + 16) ∧ sz (o + 16) = 256 := by
  have hh : ∀ o, o < 874 → kd o = 1 → isO 11 (o + 16) ∧ sz (o + 16) = 256 := by decide +kernel
  exact ⟨by simp [rf, h.2], hh o h.1 h.2⟩
theorem ch2_0 {o : Nat} (h : isO 2 o) : rf o 0 = some (2) ∧ isO 13 (2) ∧ sz (2) = 256 := by
  exact ⟨by simp [rf, h.2], by decide, by decide⟩
theorem ch2_1 {o : Nat} (h : isO 2 o) : rf o 1 = some (3) ∧ isO 5 (3) := by
  exact ⟨by simp [rf, h.2], by decide⟩
theorem ch2_2 {o : Nat} (h : isO 2 o) : rf o 2 = some (5) ∧ isO 11 (5) ∧ sz (5) = 60 := by
  exact ⟨by simp [rf, h.2], by decide, by decide⟩
theorem ch2_3 {o : Nat} (h : isO 2 o) : rf o 3 = some (6) ∧ isO 11 (6) ∧ sz (6) = 60 := by
  exact ⟨by simp [rf, h.2], by decide, by decide⟩
theorem ch2_4 {o : Nat} (h : isO 2 o) : rf o 4 = some (7) ∧ isO 11 (7) ∧ sz (7) = 60 := by
  exact ⟨by simp [rf, h.2], by decide, by decide⟩
theorem ch2_5 {o : Nat} (h : isO 2 o) : rf o 5 = some (8) ∧ isO 11 (8) ∧ sz (8) = 60 := by
  exact ⟨by simp [rf, h.2], by decide, by decide⟩
theorem ch2_6 {o : Nat} (h : isO 2 o) : rf o 6 = some (9) ∧ isO 11 (9) ∧ sz (9) = 2 := by
  exact ⟨by simp [rf, h.2], by decide, by decide⟩
theorem ch3_0 {o : Nat} (h : isO 3 o) : rf o 0 = some (o + 1) ∧ isO 15 (o + 1) ∧ sz (o + 1) = 40 := by
  have hh : ∀ o, o < 874 → kd o = 3 → isO 15 (o + 1) ∧ sz (o + 1) = 40 := by decide +kernel
  exact ⟨by simp [rf, h.2], hh o h.1 h.2⟩
theorem ch4_0 {o : Nat} (h : isO 4 o) : rf o 0 = some (o + 1) ∧ isO 11 (o + 1) ∧ sz (o + 1) = 8 := by
  have hh : ∀ o, o < 874 → kd o = 4 → isO 11 (o + 1) ∧ sz (o + 1) = 8 := by decide +kernel
  exact ⟨by simp [rf, h.2], hh o h.1 h.2⟩
theorem ch4_1 {o : Nat} (h : isO 4 o) : rf o 1 = some (o + 2) ∧ isO 8 (o + 2) := by
  have hh : ∀ o, o < 874 → kd o = 4 → isO 8 (o + 2) := by decide +kernel
  exact ⟨by simp [rf, h.2], hh o h.1 h.2⟩
theorem ch5_0 {o : Nat} (h : isO 5 o) : rf o 0 = some (o + 1) ∧ isO 11 (o + 1) ∧ sz (o + 1) = 17 := by
  have hh : ∀ o, o < 874 → kd o = 5 → isO 11 (o + 1) ∧ sz (o + 1) = 17 := by decide +kernel
  exact ⟨by simp [rf, h.2], hh o h.1 h.2⟩
theorem ch6_0 {o : Nat} (h : isO 6 o) : rf o 0 = some (o + 1) ∧ isO 11 (o + 1) ∧ sz (o + 1) = 512 := by
  have hh : ∀ o, o < 874 → kd o = 6 → isO 11 (o + 1) ∧ sz (o + 1) = 512 := by decide +kernel
  exact ⟨by simp [rf, h.2], hh o h.1 h.2⟩
theorem ch7_0 {o : Nat} (h : isO 7 o) : rf o 0 = some (o + 1) ∧ isO 11 (o + 1) ∧ sz (o + 1) = 8 := by
  have hh : ∀ o, o < 874 → kd o = 7 → isO 11 (o + 1) ∧ sz (o + 1) = 8 := by decide +kernel
  exact ⟨by simp [rf, h.2], hh o h.1 h.2⟩
theorem ch7_1 {o : Nat} (h : isO 7 o) : rf o 1 = some (o + 2) ∧ isO 8 (o + 2) := by
  have hh : ∀ o, o < 874 → kd o = 7 → isO 8 (o + 2) := by decide +kernel
  exact ⟨by simp [rf, h.2], hh o h.1 h.2⟩
theorem ch9_0 {o : Nat} (h : isO 9 o) : rf o 0 = some (1) ∧ isO 2 (1) := by
  exact ⟨by simp [rf, h.2], by decide⟩
theorem ch9_1 {o : Nat} (h : isO 9 o) : rf o 1 = some (522) ∧ isO 14 (522) ∧ sz (522) = 2 := by
  exact ⟨by simp [rf, h.2], by decide, by decide⟩
theorem ch9_2 {o : Nat} (h : isO 9 o) : rf o 2 = some (815) ∧ isO 11 (815) ∧ sz (815) = 64 := by
  exact ⟨by simp [rf, h.2], by decide, by decide⟩
theorem ch10_1 {o : Nat} (h : isO 10 o) : rf o 1 = some (817) ∧ isO 11 (817) ∧ sz (817) = 2 := by
  exact ⟨by simp [rf, h.2, isR, rfM], by decide, by decide⟩
theorem ch10_2 {o : Nat} (h : isO 10 o) : rf o 2 = some (818) ∧ isO 11 (818) ∧ sz (818) = 2 := by
  exact ⟨by simp [rf, h.2, isR, rfM], by decide, by decide⟩
theorem ch10_3 {o : Nat} (h : isO 10 o) : rf o 3 = some (819) ∧ isO 11 (819) ∧ sz (819) = 2 := by
  exact ⟨by simp [rf, h.2, isR, rfM], by decide, by decide⟩
theorem ch10_4 {o : Nat} (h : isO 10 o) : rf o 4 = some (820) ∧ isO 12 (820) ∧ sz (820) = 2 := by
  exact ⟨by simp [rf, h.2, isR, rfM], by decide, by decide⟩
theorem ch10_5 {o : Nat} (h : isO 10 o) : rf o 5 = some (821) ∧ isO 11 (821) ∧ sz (821) = 2 := by
  exact ⟨by simp [rf, h.2, isR, rfM], by decide, by decide⟩
theorem ch10_6 {o : Nat} (h : isO 10 o) : rf o 6 = some (822) ∧ isO 11 (822) ∧ sz (822) = 2 := by
  exact ⟨by simp [rf, h.2, isR, rfM], by decide, by decide⟩
theorem ch10_7 {o : Nat} (h : isO 10 o) : rf o 7 = some (823) ∧ isO 11 (823) ∧ sz (823) = 2 := by
  exact ⟨by simp [rf, h.2, isR, rfM], by decide, by decide⟩
theorem ch10_8 {o : Nat} (h : isO 10 o) : rf o 8 = some (824) ∧ isO 11 (824) ∧ sz (824) = 2 := by
  exact ⟨by simp [rf, h.2, isR, rfM], by decide, by decide⟩
theorem ch10_9 {o : Nat} (h : isO 10 o) : rf o 9 = some (825) ∧ isO 11 (825) ∧ sz (825) = 2 := by
  exact ⟨by simp [rf, h.2, isR, rfM], by decide, by decide⟩
theorem ch10_10 {o : Nat} (h : isO 10 o) : rf o 10 = some (826) ∧ isO 11 (826) ∧ sz (826) = 2 := by
  exact ⟨by simp [rf, h.2, isR, rfM], by decide, by decide⟩
theorem ch10_11 {o : Nat} (h : isO 10 o) : rf o 11 = some (827) ∧ isO 11 (827) ∧ sz (827) = 2 := by
  exact ⟨by simp [rf, h.2, isR, rfM], by decide, by decide⟩
theorem ch10_12 {o : Nat} (h : isO 10 o) : rf o 12 = some (828) ∧ isO 11 (828) ∧ sz (828) = 40 := by
  exact ⟨by simp [rf, h.2, isR, rfM], by decide, by decide⟩
theorem ch10_13 {o : Nat} (h : isO 10 o) : rf o 13 = some (829) ∧ isO 11 (829) ∧ sz (829) = 2 := by
  exact ⟨by simp [rf, h.2, isR, rfM], by decide, by decide⟩
theorem ch10_14 {o : Nat} (h : isO 10 o) : rf o 14 = some (830) ∧ isO 11 (830) ∧ sz (830) = 2 := by
  exact ⟨by simp [rf, h.2, isR, rfM], by decide, by decide⟩
theorem ch10_15 {o : Nat} (h : isO 10 o) : rf o 15 = some (831) ∧ isO 11 (831) ∧ sz (831) = 2 := by
  exact ⟨by simp [rf, h.2, isR, rfM], by decide, by decide⟩
theorem ch10_16 {o : Nat} (h : isO 10 o) : rf o 16 = some (832) ∧ isO 11 (832) ∧ sz (832) = 80 := by
  exact ⟨by simp [rf, h.2, isR, rfM], by decide, by decide⟩
theorem ch10_17 {o : Nat} (h : isO 10 o) : rf o 17 = some (833) ∧ isO 12 (833) ∧ sz (833) = 80 := by
  exact ⟨by simp [rf, h.2, isR, rfM], by decide, by decide⟩
theorem ch10_18 {o : Nat} (h : isO 10 o) : rf o 18 = some (834) ∧ isO 11 (834) ∧ sz (834) = 80 := by
  exact ⟨by simp [rf, h.2, isR, rfM], by decide, by decide⟩
theorem ch10_19 {o : Nat} (h : isO 10 o) : rf o 19 = some (835) ∧ isO 11 (835) ∧ sz (835) = 80 := by
  exact ⟨by simp [rf, h.2, isR, rfM], by decide, by decide⟩
theorem ch10_20 {o : Nat} (h : isO 10 o) : rf o 20 = some (836) ∧ isO 11 (836) ∧ sz (836) = 80 := by
  exact ⟨by simp [rf, h.2, isR, rfM], by decide, by decide⟩
theorem ch10_21 {o : Nat} (h : isO 10 o) : rf o 21 = some (837) ∧ isO 11 (837) ∧ sz (837) = 640 := by
  exact ⟨by simp [rf, h.2, isR, rfM], by decide, by decide⟩
theorem ch10_22 {o : Nat} (h : isO 10 o) : rf o 22 = some (838) ∧ isO 11 (838) ∧ sz (838) = 2 := by
  exact ⟨by simp [rf, h.2, isR, rfM], by decide, by decide⟩
theorem ch10_23 {o : Nat} (h : isO 10 o) : rf o 23 = some (839) ∧ isO 11 (839) ∧ sz (839) = 2 := by
  exact ⟨by simp [rf, h.2, isR, rfM], by decide, by decide⟩
theorem ch10_24 {o : Nat} (h : isO 10 o) : rf o 24 = some (840) ∧ isO 11 (840) ∧ sz (840) = 2 := by
  exact ⟨by simp [rf, h.2, isR, rfM], by decide, by decide⟩
theorem ch10_25 {o : Nat} (h : isO 10 o) : rf o 25 = some (841) ∧ isO 11 (841) ∧ sz (841) = 2 := by
  exact ⟨by simp [rf, h.2, isR, rfM], by decide, by decide⟩
theorem ch10_26 {o : Nat} (h : isO 10 o) : rf o 26 = some (842) ∧ isO 11 (842) ∧ sz (842) = 16 := by
  exact ⟨by simp [rf, h.2, isR, rfM], by decide, by decide⟩
theorem ch10_27 {o : Nat} (h : isO 10 o) : rf o 27 = some (843) ∧ isO 11 (843) ∧ sz (843) = 2 := by
  exact ⟨by simp [rf, h.2, isR, rfM], by decide, by decide⟩
theorem ch10_28 {o : Nat} (h : isO 10 o) : rf o 28 = some (844) ∧ isO 11 (844) ∧ sz (844) = 2 := by
  exact ⟨by simp [rf, h.2, isR, rfM], by decide, by decide⟩
theorem ch10_29 {o : Nat} (h : isO 10 o) : rf o 29 = some (845) ∧ isO 11 (845) ∧ sz (845) = 2 := by
  exact ⟨by simp [rf, h.2, isR, rfM], by decide, by decide⟩
theorem ch10_30 {o : Nat} (h : isO 10 o) : rf o 30 = some (846) ∧ isO 11 (846) ∧ sz (846) = 2 := by
  exact ⟨by simp [rf, h.2, isR, rfM], by decide, by decide⟩
theorem ch10_31 {o : Nat} (h : isO 10 o) : rf o 31 = some (847) ∧ isO 11 (847) ∧ sz (847) = 2 := by
  exact ⟨by simp [rf, h.2, isR, rfM], by decide, by decide⟩
theorem ch10_32 {o : Nat} (h : isO 10 o) : rf o 32 = some (848) ∧ isO 11 (848) ∧ sz (848) = 256 := by
  exact ⟨by simp [rf, h.2, isR, rfM], by decide, by decide⟩
theorem ch10_33 {o : Nat} (h : isO 10 o) : rf o 33 = some (849) ∧ isO 12 (849) ∧ sz (849) = 256 := by
  exact ⟨by simp [rf, h.2, isR, rfM], by decide, by decide⟩
theorem ch10_34 {o : Nat} (h : isO 10 o) : rf o 34 = some (850) ∧ isO 11 (850) ∧ sz (850) = 2048 := by
  exact ⟨by simp [rf, h.2, isR, rfM], by decide, by decide⟩
theorem ch10_35 {o : Nat} (h : isO 10 o) : rf o 35 = some (851) ∧ isO 11 (851) ∧ sz (851) = 2 := by
  exact ⟨by simp [rf, h.2, isR, rfM], by decide, by decide⟩
theorem ch10_36 {o : Nat} (h : isO 10 o) : rf o 36 = some (852) ∧ isO 11 (852) ∧ sz (852) = 2 := by
  exact ⟨by simp [rf, h.2, isR, rfM], by decide, by decide⟩
theorem ch10_37 {o : Nat} (h : isO 10 o) : rf o 37 = some (853) ∧ isO 11 (853) ∧ sz (853) = 8192 := by
  exact ⟨by simp [rf, h.2, isR, rfM], by decide, by decide⟩
theorem ch10_38 {o : Nat} (h : isO 10 o) : rf o 38 = some (854) ∧ isO 11 (854) ∧ sz (854) = 2 := by
  exact ⟨by simp [rf, h.2, isR, rfM], by decide, by decide⟩
theorem ch10_39 {o : Nat} (h : isO 10 o) : rf o 39 = some (855) ∧ isO 11 (855) ∧ sz (855) = 128 := by
  exact ⟨by simp [rf, h.2, isR, rfM], by decide, by decide⟩
theorem ch10_40 {o : Nat} (h : isO 10 o) : rf o 40 = some (856) ∧ isO 11 (856) ∧ sz (856) = 128 := by
  exact ⟨by simp [rf, h.2, isR, rfM], by decide, by decide⟩
theorem ch10_41 {o : Nat} (h : isO 10 o) : rf o 41 = some (857) ∧ isO 11 (857) ∧ sz (857) = 16384 := by
  exact ⟨by simp [rf, h.2, isR, rfM], by decide, by decide⟩
theorem ch10_42 {o : Nat} (h : isO 10 o) : rf o 42 = some (858) ∧ isO 11 (858) ∧ sz (858) = 2 := by
  exact ⟨by simp [rf, h.2, isR, rfM], by decide, by decide⟩
theorem ch10_43 {o : Nat} (h : isO 10 o) : rf o 43 = some (859) ∧ isO 11 (859) ∧ sz (859) = 2 := by
  exact ⟨by simp [rf, h.2, isR, rfM], by decide, by decide⟩
theorem ch10_44 {o : Nat} (h : isO 10 o) : rf o 44 = some (860) ∧ isO 11 (860) ∧ sz (860) = 8192 := by
  exact ⟨by simp [rf, h.2, isR, rfM], by decide, by decide⟩
theorem ch10_45 {o : Nat} (h : isO 10 o) : rf o 45 = some (861) ∧ isO 11 (861) ∧ sz (861) = 2 := by
  exact ⟨by simp [rf, h.2, isR, rfM], by decide, by decide⟩
theorem ch10_46 {o : Nat} (h : isO 10 o) : rf o 46 = some (862) ∧ isO 11 (862) ∧ sz (862) = 2048 := by
  exact ⟨by simp [rf, h.2, isR, rfM], by decide, by decide⟩
theorem ch10_47 {o : Nat} (h : isO 10 o) : rf o 47 = some (863) ∧ isO 11 (863) ∧ sz (863) = 64 := by
  exact ⟨by simp [rf, h.2, isR, rfM], by decide, by decide⟩
theorem ch10_50 {o : Nat} (h : isO 10 o) : rf o 50 = some (864) ∧ isO 11 (864) ∧ sz (864) = 60 := by
  exact ⟨by simp [rf, h.2, isR, rfM], by decide, by decide⟩
theorem ch10_51 {o : Nat} (h : isO 10 o) : rf o 51 = some (865) ∧ isO 11 (865) ∧ sz (865) = 60 := by
  exact ⟨by simp [rf, h.2, isR, rfM], by decide, by decide⟩
theorem ch10_52 {o : Nat} (h : isO 10 o) : rf o 52 = some (866) ∧ isO 11 (866) ∧ sz (866) = 60 := by
  exact ⟨by simp [rf, h.2, isR, rfM], by decide, by decide⟩
theorem ch10_53 {o : Nat} (h : isO 10 o) : rf o 53 = some (867) ∧ isO 11 (867) ∧ sz (867) = 60 := by
  exact ⟨by simp [rf, h.2, isR, rfM], by decide, by decide⟩
theorem ch10_56 {o : Nat} (h : isO 10 o) : rf o 56 = some (868) ∧ isO 11 (868) ∧ sz (868) = 81920 := by
  exact ⟨by simp [rf, h.2, isR, rfM], by decide, by decide⟩
theorem ch10_57 {o : Nat} (h : isO 10 o) : rf o 57 = some (869) ∧ isO 11 (869) ∧ sz (869) = 4096 := by
  exact ⟨by simp [rf, h.2, isR, rfM], by decide, by decide⟩
theorem ch10_58 {o : Nat} (h : isO 10 o) : rf o 58 = some (870) ∧ isO 11 (870) ∧ sz (870) = 4096 := by
  exact ⟨by simp [rf, h.2, isR, rfM], by decide, by decide⟩
theorem ch10_59 {o : Nat} (h : isO 10 o) : rf o 59 = some (871) ∧ isO 11 (871) ∧ sz (871) = 4096 := by
  exact ⟨by simp [rf, h.2, isR, rfM], by decide, by decide⟩
theorem ch10_60 {o : Nat} (h : isO 10 o) : rf o 60 = some (872) ∧ isO 11 (872) ∧ sz (872) = 20 := by
  exact ⟨by simp [rf, h.2, isR, rfM], by decide, by decide⟩
theorem ch10_62 {o : Nat} (h : isO 10 o) : rf o 62 = some (873) ∧ isO 11 (873) ∧ sz (873) = 20 := by
  exact ⟨by simp [rf, h.2, isR, rfM], by decide, by decide⟩
theorem arU {i : Nat} (h : i < 256) : rf 2 i = some (10 + 2 * i) ∧ isO 5 (10 + 2 * i) := by
  have hh : ∀ i, i < 256 → rf 2 i = some (10 + 2 * i) ∧ isO 5 (10 + 2 * i) := by decide +kernel
  exact hh i h
theorem arE {i : Nat} (h : i < 2) : rf 522 i = some (523 + 146 * i) ∧ isO 0 (523 + 146 * i) := by
  have hh : ∀ i, i < 2 → rf 522 i = some (523 + 146 * i) ∧ isO 0 (523 + 146 * i) := by decide +kernel
  exact hh i h
theorem arP {o i : Nat} (ho : isO 15 o) (h : i < 40) : rf o i = some (o + 1 + 3 * i) ∧ isO 4 (o + 1 + 3 * i) := by
  have hh : ∀ o, o < 874 → kd o = 15 → ∀ i, i < 40 → isO 4 (o + 1 + 3 * i) := by decide +kernel
  exact ⟨by simp [rf, ho.2, h], hh o ho.1 ho.2 i h⟩
