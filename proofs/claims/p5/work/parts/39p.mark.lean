theorem MK_iff {x : Int} : MK x ↔ 0 ≤ x ∧ x < 2533274790395904 ∧ x / 1 % 64 ≤ 37 ∧ x / 64 % 64 ≤ 37 ∧ x / 4096 % 64 ≤ 37 ∧ x / 262144 % 64 ≤ 37 ∧ x / 16777216 % 64 ≤ 37 ∧ x / 1073741824 % 64 ≤ 37 ∧ x / 68719476736 % 64 ≤ 37 ∧ x / 4398046511104 % 64 ≤ 37 := by
  have e0 : (64 : Int) ^ 0 = 1 := by decide
  have e1 : (64 : Int) ^ 1 = 64 := by decide
  have e2 : (64 : Int) ^ 2 = 4096 := by decide
  have e3 : (64 : Int) ^ 3 = 262144 := by decide
  have e4 : (64 : Int) ^ 4 = 16777216 := by decide
  have e5 : (64 : Int) ^ 5 = 1073741824 := by decide
  have e6 : (64 : Int) ^ 6 = 68719476736 := by decide
  have e7 : (64 : Int) ^ 7 = 4398046511104 := by decide
  constructor
  · intro h
    have f0 := h.2.2 0 (by omega)
    rw [e0] at f0
    have f1 := h.2.2 1 (by omega)
    rw [e1] at f1
    have f2 := h.2.2 2 (by omega)
    rw [e2] at f2
    have f3 := h.2.2 3 (by omega)
    rw [e3] at f3
    have f4 := h.2.2 4 (by omega)
    rw [e4] at f4
    have f5 := h.2.2 5 (by omega)
    rw [e5] at f5
    have f6 := h.2.2 6 (by omega)
    rw [e6] at f6
    have f7 := h.2.2 7 (by omega)
    rw [e7] at f7
    exact ⟨h.1, h.2.1, f0, f1, f2, f3, f4, f5, f6, f7⟩
  · rintro ⟨h1, h2, f0, f1, f2, f3, f4, f5, f6, f7⟩
    refine ⟨h1, h2, fun i hi => ?_⟩
    match i, hi with
    | 0, _ => rw [e0]; exact f0
    | 1, _ => rw [e1]; exact f1
    | 2, _ => rw [e2]; exact f2
    | 3, _ => rw [e3]; exact f3
    | 4, _ => rw [e4]; exact f4
    | 5, _ => rw [e5]; exact f5
    | 6, _ => rw [e6]; exact f6
    | 7, _ => rw [e7]; exact f7
theorem mkf_0_0 {x c : Int} (h2 : x % 281474976710656 < 1) (c1 : 1 ≤ c) (c2 : c ≤ 37) : (x + c * 1 + 281474976710656) / 1 % 64 = c := by omega
theorem mkf_0_1 {x c : Int} (h2 : x % 281474976710656 < 1) (c1 : 1 ≤ c) (c2 : c ≤ 37) : (x + c * 1 + 281474976710656) / 64 % 64 = 0 := by omega
theorem mkf_0_2 {x c : Int} (h2 : x % 281474976710656 < 1) (c1 : 1 ≤ c) (c2 : c ≤ 37) : (x + c * 1 + 281474976710656) / 4096 % 64 = 0 := by omega
theorem mkf_0_3 {x c : Int} (h2 : x % 281474976710656 < 1) (c1 : 1 ≤ c) (c2 : c ≤ 37) : (x + c * 1 + 281474976710656) / 262144 % 64 = 0 := by omega
theorem mkf_0_4 {x c : Int} (h2 : x % 281474976710656 < 1) (c1 : 1 ≤ c) (c2 : c ≤ 37) : (x + c * 1 + 281474976710656) / 16777216 % 64 = 0 := by omega
theorem mkf_0_5 {x c : Int} (h2 : x % 281474976710656 < 1) (c1 : 1 ≤ c) (c2 : c ≤ 37) : (x + c * 1 + 281474976710656) / 1073741824 % 64 = 0 := by omega
theorem mkf_0_6 {x c : Int} (h2 : x % 281474976710656 < 1) (c1 : 1 ≤ c) (c2 : c ≤ 37) : (x + c * 1 + 281474976710656) / 68719476736 % 64 = 0 := by omega
theorem mkf_0_7 {x c : Int} (h2 : x % 281474976710656 < 1) (c1 : 1 ≤ c) (c2 : c ≤ 37) : (x + c * 1 + 281474976710656) / 4398046511104 % 64 = 0 := by omega
theorem mkap_0 {x c : Int} (h : MK x) (h1 : x / 281474976710656 = 0) (h2 : x % 281474976710656 < 1) (c1 : 1 ≤ c) (c2 : c ≤ 37) : MK (x + c * 1 + 281474976710656) ∧ (x + c * 1 + 281474976710656) / 281474976710656 = 1 ∧ (x + c * 1 + 281474976710656) % 281474976710656 < 64 := by
  obtain ⟨k1, k2, f0, f1, f2, f3, f4, f5, f6, f7⟩ := MK_iff.mp h
  clear h
  refine ⟨MK_iff.mpr ⟨?_, ?_, by rw [mkf_0_0 h2 c1 c2]; exact c2, by rw [mkf_0_1 h2 c1 c2]; decide, by rw [mkf_0_2 h2 c1 c2]; decide, by rw [mkf_0_3 h2 c1 c2]; decide, by rw [mkf_0_4 h2 c1 c2]; decide, by rw [mkf_0_5 h2 c1 c2]; decide, by rw [mkf_0_6 h2 c1 c2]; decide, by rw [mkf_0_7 h2 c1 c2]; decide⟩, ?_, ?_⟩ <;> (clear f0 f1 f2 f3 f4 f5 f6 f7; omega)
theorem mkf_1_0 (x c : Int) : (x + c * 64 + 281474976710656) / 1 % 64 = x / 1 % 64 := by omega
theorem mkf_1_1 {x c : Int} (h2 : x % 281474976710656 < 64) (c1 : 1 ≤ c) (c2 : c ≤ 37) : (x + c * 64 + 281474976710656) / 64 % 64 = c := by omega
theorem mkf_1_2 {x c : Int} (h2 : x % 281474976710656 < 64) (c1 : 1 ≤ c) (c2 : c ≤ 37) : (x + c * 64 + 281474976710656) / 4096 % 64 = 0 := by omega
theorem mkf_1_3 {x c : Int} (h2 : x % 281474976710656 < 64) (c1 : 1 ≤ c) (c2 : c ≤ 37) : (x + c * 64 + 281474976710656) / 262144 % 64 = 0 := by omega
theorem mkf_1_4 {x c : Int} (h2 : x % 281474976710656 < 64) (c1 : 1 ≤ c) (c2 : c ≤ 37) : (x + c * 64 + 281474976710656) / 16777216 % 64 = 0 := by omega
theorem mkf_1_5 {x c : Int} (h2 : x % 281474976710656 < 64) (c1 : 1 ≤ c) (c2 : c ≤ 37) : (x + c * 64 + 281474976710656) / 1073741824 % 64 = 0 := by omega
theorem mkf_1_6 {x c : Int} (h2 : x % 281474976710656 < 64) (c1 : 1 ≤ c) (c2 : c ≤ 37) : (x + c * 64 + 281474976710656) / 68719476736 % 64 = 0 := by omega
theorem mkf_1_7 {x c : Int} (h2 : x % 281474976710656 < 64) (c1 : 1 ≤ c) (c2 : c ≤ 37) : (x + c * 64 + 281474976710656) / 4398046511104 % 64 = 0 := by omega
theorem mkap_1 {x c : Int} (h : MK x) (h1 : x / 281474976710656 = 1) (h2 : x % 281474976710656 < 64) (c1 : 1 ≤ c) (c2 : c ≤ 37) : MK (x + c * 64 + 281474976710656) ∧ (x + c * 64 + 281474976710656) / 281474976710656 = 2 ∧ (x + c * 64 + 281474976710656) % 281474976710656 < 4096 := by
  obtain ⟨k1, k2, f0, f1, f2, f3, f4, f5, f6, f7⟩ := MK_iff.mp h
  clear h
  refine ⟨MK_iff.mpr ⟨?_, ?_, by rw [mkf_1_0]; exact f0, by rw [mkf_1_1 h2 c1 c2]; exact c2, by rw [mkf_1_2 h2 c1 c2]; decide, by rw [mkf_1_3 h2 c1 c2]; decide, by rw [mkf_1_4 h2 c1 c2]; decide, by rw [mkf_1_5 h2 c1 c2]; decide, by rw [mkf_1_6 h2 c1 c2]; decide, by rw [mkf_1_7 h2 c1 c2]; decide⟩, ?_, ?_⟩ <;> (clear f0 f1 f2 f3 f4 f5 f6 f7; omega)
theorem mkf_2_0 (x c : Int) : (x + c * 4096 + 281474976710656) / 1 % 64 = x / 1 % 64 := by omega
theorem mkf_2_1 (x c : Int) : (x + c * 4096 + 281474976710656) / 64 % 64 = x / 64 % 64 := by omega
theorem mkf_2_2 {x c : Int} (h2 : x % 281474976710656 < 4096) (c1 : 1 ≤ c) (c2 : c ≤ 37) : (x + c * 4096 + 281474976710656) / 4096 % 64 = c := by omega
theorem mkf_2_3 {x c : Int} (h2 : x % 281474976710656 < 4096) (c1 : 1 ≤ c) (c2 : c ≤ 37) : (x + c * 4096 + 281474976710656) / 262144 % 64 = 0 := by omega
theorem mkf_2_4 {x c : Int} (h2 : x % 281474976710656 < 4096) (c1 : 1 ≤ c) (c2 : c ≤ 37) : (x + c * 4096 + 281474976710656) / 16777216 % 64 = 0 := by omega
theorem mkf_2_5 {x c : Int} (h2 : x % 281474976710656 < 4096) (c1 : 1 ≤ c) (c2 : c ≤ 37) : (x + c * 4096 + 281474976710656) / 1073741824 % 64 = 0 := by omega
theorem mkf_2_6 {x c : Int} (h2 : x % 281474976710656 < 4096) (c1 : 1 ≤ c) (c2 : c ≤ 37) : (x + c * 4096 + 281474976710656) / 68719476736 % 64 = 0 := by omega
theorem mkf_2_7 {x c : Int} (h2 : x % 281474976710656 < 4096) (c1 : 1 ≤ c) (c2 : c ≤ 37) : (x + c * 4096 + 281474976710656) / 4398046511104 % 64 = 0 := by omega
theorem mkap_2 {x c : Int} (h : MK x) (h1 : x / 281474976710656 = 2) (h2 : x % 281474976710656 < 4096) (c1 : 1 ≤ c) (c2 : c ≤ 37) : MK (x + c * 4096 + 281474976710656) ∧ (x + c * 4096 + 281474976710656) / 281474976710656 = 3 ∧ (x + c * 4096 + 281474976710656) % 281474976710656 < 262144 := by
  obtain ⟨k1, k2, f0, f1, f2, f3, f4, f5, f6, f7⟩ := MK_iff.mp h
  clear h
  refine ⟨MK_iff.mpr ⟨?_, ?_, by rw [mkf_2_0]; exact f0, by rw [mkf_2_1]; exact f1, by rw [mkf_2_2 h2 c1 c2]; exact c2, by rw [mkf_2_3 h2 c1 c2]; decide, by rw [mkf_2_4 h2 c1 c2]; decide, by rw [mkf_2_5 h2 c1 c2]; decide, by rw [mkf_2_6 h2 c1 c2]; decide, by rw [mkf_2_7 h2 c1 c2]; decide⟩, ?_, ?_⟩ <;> (clear f0 f1 f2 f3 f4 f5 f6 f7; omega)
theorem mkf_3_0 (x c : Int) : (x + c * 262144 + 281474976710656) / 1 % 64 = x / 1 % 64 := by omega
theorem mkf_3_1 (x c : Int) : (x + c * 262144 + 281474976710656) / 64 % 64 = x / 64 % 64 := by omega
theorem mkf_3_2 (x c : Int) : (x + c * 262144 + 281474976710656) / 4096 % 64 = x / 4096 % 64 := by omega
theorem mkf_3_3 {x c : Int} (h2 : x % 281474976710656 < 262144) (c1 : 1 ≤ c) (c2 : c ≤ 37) : (x + c * 262144 + 281474976710656) / 262144 % 64 = c := by omega
theorem mkf_3_4 {x c : Int} (h2 : x % 281474976710656 < 262144) (c1 : 1 ≤ c) (c2 : c ≤ 37) : (x + c * 262144 + 281474976710656) / 16777216 % 64 = 0 := by omega
theorem mkf_3_5 {x c : Int} (h2 : x % 281474976710656 < 262144) (c1 : 1 ≤ c) (c2 : c ≤ 37) : (x + c * 262144 + 281474976710656) / 1073741824 % 64 = 0 := by omega
theorem mkf_3_6 {x c : Int} (h2 : x % 281474976710656 < 262144) (c1 : 1 ≤ c) (c2 : c ≤ 37) : (x + c * 262144 + 281474976710656) / 68719476736 % 64 = 0 := by omega
theorem mkf_3_7 {x c : Int} (h2 : x % 281474976710656 < 262144) (c1 : 1 ≤ c) (c2 : c ≤ 37) : (x + c * 262144 + 281474976710656) / 4398046511104 % 64 = 0 := by omega
theorem mkap_3 {x c : Int} (h : MK x) (h1 : x / 281474976710656 = 3) (h2 : x % 281474976710656 < 262144) (c1 : 1 ≤ c) (c2 : c ≤ 37) : MK (x + c * 262144 + 281474976710656) ∧ (x + c * 262144 + 281474976710656) / 281474976710656 = 4 ∧ (x + c * 262144 + 281474976710656) % 281474976710656 < 16777216 := by
  obtain ⟨k1, k2, f0, f1, f2, f3, f4, f5, f6, f7⟩ := MK_iff.mp h
  clear h
  refine ⟨MK_iff.mpr ⟨?_, ?_, by rw [mkf_3_0]; exact f0, by rw [mkf_3_1]; exact f1, by rw [mkf_3_2]; exact f2, by rw [mkf_3_3 h2 c1 c2]; exact c2, by rw [mkf_3_4 h2 c1 c2]; decide, by rw [mkf_3_5 h2 c1 c2]; decide, by rw [mkf_3_6 h2 c1 c2]; decide, by rw [mkf_3_7 h2 c1 c2]; decide⟩, ?_, ?_⟩ <;> (clear f0 f1 f2 f3 f4 f5 f6 f7; omega)
theorem mkf_4_0 (x c : Int) : (x + c * 16777216 + 281474976710656) / 1 % 64 = x / 1 % 64 := by omega
theorem mkf_4_1 (x c : Int) : (x + c * 16777216 + 281474976710656) / 64 % 64 = x / 64 % 64 := by omega
theorem mkf_4_2 (x c : Int) : (x + c * 16777216 + 281474976710656) / 4096 % 64 = x / 4096 % 64 := by omega
theorem mkf_4_3 (x c : Int) : (x + c * 16777216 + 281474976710656) / 262144 % 64 = x / 262144 % 64 := by omega
theorem mkf_4_4 {x c : Int} (h2 : x % 281474976710656 < 16777216) (c1 : 1 ≤ c) (c2 : c ≤ 37) : (x + c * 16777216 + 281474976710656) / 16777216 % 64 = c := by omega
theorem mkf_4_5 {x c : Int} (h2 : x % 281474976710656 < 16777216) (c1 : 1 ≤ c) (c2 : c ≤ 37) : (x + c * 16777216 + 281474976710656) / 1073741824 % 64 = 0 := by omega
theorem mkf_4_6 {x c : Int} (h2 : x % 281474976710656 < 16777216) (c1 : 1 ≤ c) (c2 : c ≤ 37) : (x + c * 16777216 + 281474976710656) / 68719476736 % 64 = 0 := by omega
theorem mkf_4_7 {x c : Int} (h2 : x % 281474976710656 < 16777216) (c1 : 1 ≤ c) (c2 : c ≤ 37) : (x + c * 16777216 + 281474976710656) / 4398046511104 % 64 = 0 := by omega
theorem mkap_4 {x c : Int} (h : MK x) (h1 : x / 281474976710656 = 4) (h2 : x % 281474976710656 < 16777216) (c1 : 1 ≤ c) (c2 : c ≤ 37) : MK (x + c * 16777216 + 281474976710656) ∧ (x + c * 16777216 + 281474976710656) / 281474976710656 = 5 ∧ (x + c * 16777216 + 281474976710656) % 281474976710656 < 1073741824 := by
  obtain ⟨k1, k2, f0, f1, f2, f3, f4, f5, f6, f7⟩ := MK_iff.mp h
  clear h
  refine ⟨MK_iff.mpr ⟨?_, ?_, by rw [mkf_4_0]; exact f0, by rw [mkf_4_1]; exact f1, by rw [mkf_4_2]; exact f2, by rw [mkf_4_3]; exact f3, by rw [mkf_4_4 h2 c1 c2]; exact c2, by rw [mkf_4_5 h2 c1 c2]; decide, by rw [mkf_4_6 h2 c1 c2]; decide, by rw [mkf_4_7 h2 c1 c2]; decide⟩, ?_, ?_⟩ <;> (clear f0 f1 f2 f3 f4 f5 f6 f7; omega)
theorem mkf_5_0 (x c : Int) : (x + c * 1073741824 + 281474976710656) / 1 % 64 = x / 1 % 64 := by omega
theorem mkf_5_1 (x c : Int) : (x + c * 1073741824 + 281474976710656) / 64 % 64 = x / 64 % 64 := by omega
theorem mkf_5_2 (x c : Int) : (x + c * 1073741824 + 281474976710656) / 4096 % 64 = x / 4096 % 64 := by omega
theorem mkf_5_3 (x c : Int) : (x + c * 1073741824 + 281474976710656) / 262144 % 64 = x / 262144 % 64 := by omega
theorem mkf_5_4 (x c : Int) : (x + c * 1073741824 + 281474976710656) / 16777216 % 64 = x / 16777216 % 64 := by omega
theorem mkf_5_5 {x c : Int} (h2 : x % 281474976710656 < 1073741824) (c1 : 1 ≤ c) (c2 : c ≤ 37) : (x + c * 1073741824 + 281474976710656) / 1073741824 % 64 = c := by omega
theorem mkf_5_6 {x c : Int} (h2 : x % 281474976710656 < 1073741824) (c1 : 1 ≤ c) (c2 : c ≤ 37) : (x + c * 1073741824 + 281474976710656) / 68719476736 % 64 = 0 := by omega
theorem mkf_5_7 {x c : Int} (h2 : x % 281474976710656 < 1073741824) (c1 : 1 ≤ c) (c2 : c ≤ 37) : (x + c * 1073741824 + 281474976710656) / 4398046511104 % 64 = 0 := by omega
theorem mkap_5 {x c : Int} (h : MK x) (h1 : x / 281474976710656 = 5) (h2 : x % 281474976710656 < 1073741824) (c1 : 1 ≤ c) (c2 : c ≤ 37) : MK (x + c * 1073741824 + 281474976710656) ∧ (x + c * 1073741824 + 281474976710656) / 281474976710656 = 6 ∧ (x + c * 1073741824 + 281474976710656) % 281474976710656 < 68719476736 := by
  obtain ⟨k1, k2, f0, f1, f2, f3, f4, f5, f6, f7⟩ := MK_iff.mp h
  clear h
  refine ⟨MK_iff.mpr ⟨?_, ?_, by rw [mkf_5_0]; exact f0, by rw [mkf_5_1]; exact f1, by rw [mkf_5_2]; exact f2, by rw [mkf_5_3]; exact f3, by rw [mkf_5_4]; exact f4, by rw [mkf_5_5 h2 c1 c2]; exact c2, by rw [mkf_5_6 h2 c1 c2]; decide, by rw [mkf_5_7 h2 c1 c2]; decide⟩, ?_, ?_⟩ <;> (clear f0 f1 f2 f3 f4 f5 f6 f7; omega)
theorem mkf_6_0 (x c : Int) : (x + c * 68719476736 + 281474976710656) / 1 % 64 = x / 1 % 64 := by omega
theorem mkf_6_1 (x c : Int) : (x + c * 68719476736 + 281474976710656) / 64 % 64 = x / 64 % 64 := by omega
theorem mkf_6_2 (x c : Int) : (x + c * 68719476736 + 281474976710656) / 4096 % 64 = x / 4096 % 64 := by omega
theorem mkf_6_3 (x c : Int) : (x + c * 68719476736 + 281474976710656) / 262144 % 64 = x / 262144 % 64 := by omega
theorem mkf_6_4 (x c : Int) : (x + c * 68719476736 + 281474976710656) / 16777216 % 64 = x / 16777216 % 64 := by omega
theorem mkf_6_5 (x c : Int) : (x + c * 68719476736 + 281474976710656) / 1073741824 % 64 = x / 1073741824 % 64 := by omega
theorem mkf_6_6 {x c : Int} (h2 : x % 281474976710656 < 68719476736) (c1 : 1 ≤ c) (c2 : c ≤ 37) : (x + c * 68719476736 + 281474976710656) / 68719476736 % 64 = c := by omega
theorem mkf_6_7 {x c : Int} (h2 : x % 281474976710656 < 68719476736) (c1 : 1 ≤ c) (c2 : c ≤ 37) : (x + c * 68719476736 + 281474976710656) / 4398046511104 % 64 = 0 := by omega
theorem mkap_6 {x c : Int} (h : MK x) (h1 : x / 281474976710656 = 6) (h2 : x % 281474976710656 < 68719476736) (c1 : 1 ≤ c) (c2 : c ≤ 37) : MK (x + c * 68719476736 + 281474976710656) ∧ (x + c * 68719476736 + 281474976710656) / 281474976710656 = 7 ∧ (x + c * 68719476736 + 281474976710656) % 281474976710656 < 4398046511104 := by
  obtain ⟨k1, k2, f0, f1, f2, f3, f4, f5, f6, f7⟩ := MK_iff.mp h
  clear h
  refine ⟨MK_iff.mpr ⟨?_, ?_, by rw [mkf_6_0]; exact f0, by rw [mkf_6_1]; exact f1, by rw [mkf_6_2]; exact f2, by rw [mkf_6_3]; exact f3, by rw [mkf_6_4]; exact f4, by rw [mkf_6_5]; exact f5, by rw [mkf_6_6 h2 c1 c2]; exact c2, by rw [mkf_6_7 h2 c1 c2]; decide⟩, ?_, ?_⟩ <;> (clear f0 f1 f2 f3 f4 f5 f6 f7; omega)
theorem mkf_7_0 (x c : Int) : (x + c * 4398046511104 + 281474976710656) / 1 % 64 = x / 1 % 64 := by omega
theorem mkf_7_1 (x c : Int) : (x + c * 4398046511104 + 281474976710656) / 64 % 64 = x / 64 % 64 := by omega
theorem mkf_7_2 (x c : Int) : (x + c * 4398046511104 + 281474976710656) / 4096 % 64 = x / 4096 % 64 := by omega
theorem mkf_7_3 (x c : Int) : (x + c * 4398046511104 + 281474976710656) / 262144 % 64 = x / 262144 % 64 := by omega
theorem mkf_7_4 (x c : Int) : (x + c * 4398046511104 + 281474976710656) / 16777216 % 64 = x / 16777216 % 64 := by omega
theorem mkf_7_5 (x c : Int) : (x + c * 4398046511104 + 281474976710656) / 1073741824 % 64 = x / 1073741824 % 64 := by omega
theorem mkf_7_6 (x c : Int) : (x + c * 4398046511104 + 281474976710656) / 68719476736 % 64 = x / 68719476736 % 64 := by omega
theorem mkf_7_7 {x c : Int} (h2 : x % 281474976710656 < 4398046511104) (c1 : 1 ≤ c) (c2 : c ≤ 37) : (x + c * 4398046511104 + 281474976710656) / 4398046511104 % 64 = c := by omega
theorem mkap_7 {x c : Int} (h : MK x) (h1 : x / 281474976710656 = 7) (h2 : x % 281474976710656 < 4398046511104) (c1 : 1 ≤ c) (c2 : c ≤ 37) : MK (x + c * 4398046511104 + 281474976710656) ∧ (x + c * 4398046511104 + 281474976710656) / 281474976710656 = 8 ∧ (x + c * 4398046511104 + 281474976710656) % 281474976710656 < 281474976710656 := by
  obtain ⟨k1, k2, f0, f1, f2, f3, f4, f5, f6, f7⟩ := MK_iff.mp h
  clear h
  refine ⟨MK_iff.mpr ⟨?_, ?_, by rw [mkf_7_0]; exact f0, by rw [mkf_7_1]; exact f1, by rw [mkf_7_2]; exact f2, by rw [mkf_7_3]; exact f3, by rw [mkf_7_4]; exact f4, by rw [mkf_7_5]; exact f5, by rw [mkf_7_6]; exact f6, by rw [mkf_7_7 h2 c1 c2]; exact c2⟩, ?_, ?_⟩ <;> (clear f0 f1 f2 f3 f4 f5 f6 f7; omega)
theorem mkg_0_0 {x d : Int} (h : d = 37 - x / 1 % 64) : (x + d * 1) / 1 % 64 = 37 := by omega
theorem mkg_0_1 {x d : Int} (h : d = 37 - x / 1 % 64) (h2 : x / 1 % 64 ≤ 37) : (x + d * 1) / 64 = x / 64 := by omega
theorem mkg_0_2 {x d : Int} (h : d = 37 - x / 1 % 64) (h2 : x / 1 % 64 ≤ 37) : (x + d * 1) / 4096 = x / 4096 := by omega
theorem mkg_0_3 {x d : Int} (h : d = 37 - x / 1 % 64) (h2 : x / 1 % 64 ≤ 37) : (x + d * 1) / 262144 = x / 262144 := by omega
theorem mkg_0_4 {x d : Int} (h : d = 37 - x / 1 % 64) (h2 : x / 1 % 64 ≤ 37) : (x + d * 1) / 16777216 = x / 16777216 := by omega
theorem mkg_0_5 {x d : Int} (h : d = 37 - x / 1 % 64) (h2 : x / 1 % 64 ≤ 37) : (x + d * 1) / 1073741824 = x / 1073741824 := by omega
theorem mkg_0_6 {x d : Int} (h : d = 37 - x / 1 % 64) (h2 : x / 1 % 64 ≤ 37) : (x + d * 1) / 68719476736 = x / 68719476736 := by omega
theorem mkg_0_7 {x d : Int} (h : d = 37 - x / 1 % 64) (h2 : x / 1 % 64 ≤ 37) : (x + d * 1) / 4398046511104 = x / 4398046511104 := by omega
theorem mkwe_0 {x : Int} (h : MK x) : MK (x + (37 - x / 1 % 64) * 1) := by
  obtain ⟨k1, k2, f0, f1, f2, f3, f4, f5, f6, f7⟩ := MK_iff.mp h
  clear h
  refine MK_iff.mpr ⟨?_, ?_, by rw [mkg_0_0 rfl]; decide, by rw [mkg_0_1 rfl f0]; exact f1, by rw [mkg_0_2 rfl f0]; exact f2, by rw [mkg_0_3 rfl f0]; exact f3, by rw [mkg_0_4 rfl f0]; exact f4, by rw [mkg_0_5 rfl f0]; exact f5, by rw [mkg_0_6 rfl f0]; exact f6, by rw [mkg_0_7 rfl f0]; exact f7⟩ <;> (clear f1 f2 f3 f4 f5 f6 f7; omega)
theorem mkg_1_0 (x d : Int) : (x + d * 64) / 1 % 64 = x / 1 % 64 := by omega
theorem mkg_1_1 {x d : Int} (h : d = 37 - x / 64 % 64) : (x + d * 64) / 64 % 64 = 37 := by omega
theorem mkg_1_2 {x d : Int} (h : d = 37 - x / 64 % 64) (h2 : x / 64 % 64 ≤ 37) : (x + d * 64) / 4096 = x / 4096 := by omega
theorem mkg_1_3 {x d : Int} (h : d = 37 - x / 64 % 64) (h2 : x / 64 % 64 ≤ 37) : (x + d * 64) / 262144 = x / 262144 := by omega
theorem mkg_1_4 {x d : Int} (h : d = 37 - x / 64 % 64) (h2 : x / 64 % 64 ≤ 37) : (x + d * 64) / 16777216 = x / 16777216 := by omega
theorem mkg_1_5 {x d : Int} (h : d = 37 - x / 64 % 64) (h2 : x / 64 % 64 ≤ 37) : (x + d * 64) / 1073741824 = x / 1073741824 := by omega
theorem mkg_1_6 {x d : Int} (h : d = 37 - x / 64 % 64) (h2 : x / 64 % 64 ≤ 37) : (x + d * 64) / 68719476736 = x / 68719476736 := by omega
theorem mkg_1_7 {x d : Int} (h : d = 37 - x / 64 % 64) (h2 : x / 64 % 64 ≤ 37) : (x + d * 64) / 4398046511104 = x / 4398046511104 := by omega
theorem mkwe_1 {x : Int} (h : MK x) : MK (x + (37 - x / 64 % 64) * 64) := by
  obtain ⟨k1, k2, f0, f1, f2, f3, f4, f5, f6, f7⟩ := MK_iff.mp h
  clear h
  refine MK_iff.mpr ⟨?_, ?_, by rw [mkg_1_0]; exact f0, by rw [mkg_1_1 rfl]; decide, by rw [mkg_1_2 rfl f1]; exact f2, by rw [mkg_1_3 rfl f1]; exact f3, by rw [mkg_1_4 rfl f1]; exact f4, by rw [mkg_1_5 rfl f1]; exact f5, by rw [mkg_1_6 rfl f1]; exact f6, by rw [mkg_1_7 rfl f1]; exact f7⟩ <;> (clear f0 f2 f3 f4 f5 f6 f7; omega)
theorem mkg_2_0 (x d : Int) : (x + d * 4096) / 1 % 64 = x / 1 % 64 := by omega
theorem mkg_2_1 (x d : Int) : (x + d * 4096) / 64 % 64 = x / 64 % 64 := by omega
theorem mkg_2_2 {x d : Int} (h : d = 37 - x / 4096 % 64) : (x + d * 4096) / 4096 % 64 = 37 := by omega
theorem mkg_2_3 {x d : Int} (h : d = 37 - x / 4096 % 64) (h2 : x / 4096 % 64 ≤ 37) : (x + d * 4096) / 262144 = x / 262144 := by omega
theorem mkg_2_4 {x d : Int} (h : d = 37 - x / 4096 % 64) (h2 : x / 4096 % 64 ≤ 37) : (x + d * 4096) / 16777216 = x / 16777216 := by omega
theorem mkg_2_5 {x d : Int} (h : d = 37 - x / 4096 % 64) (h2 : x / 4096 % 64 ≤ 37) : (x + d * 4096) / 1073741824 = x / 1073741824 := by omega
theorem mkg_2_6 {x d : Int} (h : d = 37 - x / 4096 % 64) (h2 : x / 4096 % 64 ≤ 37) : (x + d * 4096) / 68719476736 = x / 68719476736 := by omega
theorem mkg_2_7 {x d : Int} (h : d = 37 - x / 4096 % 64) (h2 : x / 4096 % 64 ≤ 37) : (x + d * 4096) / 4398046511104 = x / 4398046511104 := by omega
theorem mkwe_2 {x : Int} (h : MK x) : MK (x + (37 - x / 4096 % 64) * 4096) := by
  obtain ⟨k1, k2, f0, f1, f2, f3, f4, f5, f6, f7⟩ := MK_iff.mp h
  clear h
  refine MK_iff.mpr ⟨?_, ?_, by rw [mkg_2_0]; exact f0, by rw [mkg_2_1]; exact f1, by rw [mkg_2_2 rfl]; decide, by rw [mkg_2_3 rfl f2]; exact f3, by rw [mkg_2_4 rfl f2]; exact f4, by rw [mkg_2_5 rfl f2]; exact f5, by rw [mkg_2_6 rfl f2]; exact f6, by rw [mkg_2_7 rfl f2]; exact f7⟩ <;> (clear f0 f1 f3 f4 f5 f6 f7; omega)
theorem mkg_3_0 (x d : Int) : (x + d * 262144) / 1 % 64 = x / 1 % 64 := by omega
theorem mkg_3_1 (x d : Int) : (x + d * 262144) / 64 % 64 = x / 64 % 64 := by omega
theorem mkg_3_2 (x d : Int) : (x + d * 262144) / 4096 % 64 = x / 4096 % 64 := by omega
theorem mkg_3_3 {x d : Int} (h : d = 37 - x / 262144 % 64) : (x + d * 262144) / 262144 % 64 = 37 := by omega
theorem mkg_3_4 {x d : Int} (h : d = 37 - x / 262144 % 64) (h2 : x / 262144 % 64 ≤ 37) : (x + d * 262144) / 16777216 = x / 16777216 := by omega
theorem mkg_3_5 {x d : Int} (h : d = 37 - x / 262144 % 64) (h2 : x / 262144 % 64 ≤ 37) : (x + d * 262144) / 1073741824 = x / 1073741824 := by omega
theorem mkg_3_6 {x d : Int} (h : d = 37 - x / 262144 % 64) (h2 : x / 262144 % 64 ≤ 37) : (x + d * 262144) / 68719476736 = x / 68719476736 := by omega
theorem mkg_3_7 {x d : Int} (h : d = 37 - x / 262144 % 64) (h2 : x / 262144 % 64 ≤ 37) : (x + d * 262144) / 4398046511104 = x / 4398046511104 := by omega
theorem mkwe_3 {x : Int} (h : MK x) : MK (x + (37 - x / 262144 % 64) * 262144) := by
  obtain ⟨k1, k2, f0, f1, f2, f3, f4, f5, f6, f7⟩ := MK_iff.mp h
  clear h
  refine MK_iff.mpr ⟨?_, ?_, by rw [mkg_3_0]; exact f0, by rw [mkg_3_1]; exact f1, by rw [mkg_3_2]; exact f2, by rw [mkg_3_3 rfl]; decide, by rw [mkg_3_4 rfl f3]; exact f4, by rw [mkg_3_5 rfl f3]; exact f5, by rw [mkg_3_6 rfl f3]; exact f6, by rw [mkg_3_7 rfl f3]; exact f7⟩ <;> (clear f0 f1 f2 f4 f5 f6 f7; omega)
theorem mkg_4_0 (x d : Int) : (x + d * 16777216) / 1 % 64 = x / 1 % 64 := by omega
theorem mkg_4_1 (x d : Int) : (x + d * 16777216) / 64 % 64 = x / 64 % 64 := by omega
theorem mkg_4_2 (x d : Int) : (x + d * 16777216) / 4096 % 64 = x / 4096 % 64 := by omega
theorem mkg_4_3 (x d : Int) : (x + d * 16777216) / 262144 % 64 = x / 262144 % 64 := by omega
theorem mkg_4_4 {x d : Int} (h : d = 37 - x / 16777216 % 64) : (x + d * 16777216) / 16777216 % 64 = 37 := by omega
theorem mkg_4_5 {x d : Int} (h : d = 37 - x / 16777216 % 64) (h2 : x / 16777216 % 64 ≤ 37) : (x + d * 16777216) / 1073741824 = x / 1073741824 := by omega
theorem mkg_4_6 {x d : Int} (h : d = 37 - x / 16777216 % 64) (h2 : x / 16777216 % 64 ≤ 37) : (x + d * 16777216) / 68719476736 = x / 68719476736 := by omega
theorem mkg_4_7 {x d : Int} (h : d = 37 - x / 16777216 % 64) (h2 : x / 16777216 % 64 ≤ 37) : (x + d * 16777216) / 4398046511104 = x / 4398046511104 := by omega
theorem mkwe_4 {x : Int} (h : MK x) : MK (x + (37 - x / 16777216 % 64) * 16777216) := by
  obtain ⟨k1, k2, f0, f1, f2, f3, f4, f5, f6, f7⟩ := MK_iff.mp h
  clear h
  refine MK_iff.mpr ⟨?_, ?_, by rw [mkg_4_0]; exact f0, by rw [mkg_4_1]; exact f1, by rw [mkg_4_2]; exact f2, by rw [mkg_4_3]; exact f3, by rw [mkg_4_4 rfl]; decide, by rw [mkg_4_5 rfl f4]; exact f5, by rw [mkg_4_6 rfl f4]; exact f6, by rw [mkg_4_7 rfl f4]; exact f7⟩ <;> (clear f0 f1 f2 f3 f5 f6 f7; omega)
theorem mkg_5_0 (x d : Int) : (x + d * 1073741824) / 1 % 64 = x / 1 % 64 := by omega
theorem mkg_5_1 (x d : Int) : (x + d * 1073741824) / 64 % 64 = x / 64 % 64 := by omega
theorem mkg_5_2 (x d : Int) : (x + d * 1073741824) / 4096 % 64 = x / 4096 % 64 := by omega
theorem mkg_5_3 (x d : Int) : (x + d * 1073741824) / 262144 % 64 = x / 262144 % 64 := by omega
theorem mkg_5_4 (x d : Int) : (x + d * 1073741824) / 16777216 % 64 = x / 16777216 % 64 := by omega
theorem mkg_5_5 {x d : Int} (h : d = 37 - x / 1073741824 % 64) : (x + d * 1073741824) / 1073741824 % 64 = 37 := by omega
theorem mkg_5_6 {x d : Int} (h : d = 37 - x / 1073741824 % 64) (h2 : x / 1073741824 % 64 ≤ 37) : (x + d * 1073741824) / 68719476736 = x / 68719476736 := by omega
theorem mkg_5_7 {x d : Int} (h : d = 37 - x / 1073741824 % 64) (h2 : x / 1073741824 % 64 ≤ 37) : (x + d * 1073741824) / 4398046511104 = x / 4398046511104 := by omega
theorem mkwe_5 {x : Int} (h : MK x) : MK (x + (37 - x / 1073741824 % 64) * 1073741824) := by
  obtain ⟨k1, k2, f0, f1, f2, f3, f4, f5, f6, f7⟩ := MK_iff.mp h
  clear h
  refine MK_iff.mpr ⟨?_, ?_, by rw [mkg_5_0]; exact f0, by rw [mkg_5_1]; exact f1, by rw [mkg_5_2]; exact f2, by rw [mkg_5_3]; exact f3, by rw [mkg_5_4]; exact f4, by rw [mkg_5_5 rfl]; decide, by rw [mkg_5_6 rfl f5]; exact f6, by rw [mkg_5_7 rfl f5]; exact f7⟩ <;> (clear f0 f1 f2 f3 f4 f6 f7; omega)
theorem mkg_6_0 (x d : Int) : (x + d * 68719476736) / 1 % 64 = x / 1 % 64 := by omega
theorem mkg_6_1 (x d : Int) : (x + d * 68719476736) / 64 % 64 = x / 64 % 64 := by omega
theorem mkg_6_2 (x d : Int) : (x + d * 68719476736) / 4096 % 64 = x / 4096 % 64 := by omega
theorem mkg_6_3 (x d : Int) : (x + d * 68719476736) / 262144 % 64 = x / 262144 % 64 := by omega
theorem mkg_6_4 (x d : Int) : (x + d * 68719476736) / 16777216 % 64 = x / 16777216 % 64 := by omega
theorem mkg_6_5 (x d : Int) : (x + d * 68719476736) / 1073741824 % 64 = x / 1073741824 % 64 := by omega
theorem mkg_6_6 {x d : Int} (h : d = 37 - x / 68719476736 % 64) : (x + d * 68719476736) / 68719476736 % 64 = 37 := by omega
theorem mkg_6_7 {x d : Int} (h : d = 37 - x / 68719476736 % 64) (h2 : x / 68719476736 % 64 ≤ 37) : (x + d * 68719476736) / 4398046511104 = x / 4398046511104 := by omega
theorem mkwe_6 {x : Int} (h : MK x) : MK (x + (37 - x / 68719476736 % 64) * 68719476736) := by
  obtain ⟨k1, k2, f0, f1, f2, f3, f4, f5, f6, f7⟩ := MK_iff.mp h
  clear h
  refine MK_iff.mpr ⟨?_, ?_, by rw [mkg_6_0]; exact f0, by rw [mkg_6_1]; exact f1, by rw [mkg_6_2]; exact f2, by rw [mkg_6_3]; exact f3, by rw [mkg_6_4]; exact f4, by rw [mkg_6_5]; exact f5, by rw [mkg_6_6 rfl]; decide, by rw [mkg_6_7 rfl f6]; exact f7⟩ <;> (clear f0 f1 f2 f3 f4 f5 f7; omega)
theorem mkg_7_0 (x d : Int) : (x + d * 4398046511104) / 1 % 64 = x / 1 % 64 := by omega
theorem mkg_7_1 (x d : Int) : (x + d * 4398046511104) / 64 % 64 = x / 64 % 64 := by omega
theorem mkg_7_2 (x d : Int) : (x + d * 4398046511104) / 4096 % 64 = x / 4096 % 64 := by omega
theorem mkg_7_3 (x d : Int) : (x + d * 4398046511104) / 262144 % 64 = x / 262144 % 64 := by omega
theorem mkg_7_4 (x d : Int) : (x + d * 4398046511104) / 16777216 % 64 = x / 16777216 % 64 := by omega
theorem mkg_7_5 (x d : Int) : (x + d * 4398046511104) / 1073741824 % 64 = x / 1073741824 % 64 := by omega
theorem mkg_7_6 (x d : Int) : (x + d * 4398046511104) / 68719476736 % 64 = x / 68719476736 % 64 := by omega
theorem mkg_7_7 {x d : Int} (h : d = 37 - x / 4398046511104 % 64) : (x + d * 4398046511104) / 4398046511104 % 64 = 37 := by omega
theorem mkwe_7 {x : Int} (h : MK x) : MK (x + (37 - x / 4398046511104 % 64) * 4398046511104) := by
  obtain ⟨k1, k2, f0, f1, f2, f3, f4, f5, f6, f7⟩ := MK_iff.mp h
  clear h
  refine MK_iff.mpr ⟨?_, ?_, by rw [mkg_7_0]; exact f0, by rw [mkg_7_1]; exact f1, by rw [mkg_7_2]; exact f2, by rw [mkg_7_3]; exact f3, by rw [mkg_7_4]; exact f4, by rw [mkg_7_5]; exact f5, by rw [mkg_7_6]; exact f6, by rw [mkg_7_7 rfl]; decide⟩ <;> (clear f0 f1 f2 f3 f4 f5 f6; omega)
