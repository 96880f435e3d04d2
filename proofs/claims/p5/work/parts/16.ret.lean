/-! ===== every step within a method ===== -/
theorem ztk_inv : ∀ {n : Nat} {st acc : List zV} {k : List zV → List zV → zO} {o}, ztk n st acc k = some o → ∃ xs rest, st = xs ++ rest ∧ xs.length = n ∧ k (xs.reverse ++ acc) rest = some o
  | 0, st, acc, k, o, h => ⟨[], st, rfl, rfl, h⟩
  | n + 1, st, acc, k, o, h => by
    match st, h with
    | a :: r, h =>
      have h' : ztk n r (a :: acc) k = some o := h
      obtain ⟨xs, rest, e1, e2, e3⟩ := ztk_inv h'
      exact ⟨a :: xs, rest, by rw [e1]; rfl, by rw [List.length_cons, e2], by rw [List.reverse_cons, List.append_assoc]; exact e3⟩
    | [], h => cases h
theorem zcall_inv {npc a1 a2 : Nat} {st : List zV} {sz : Nat} {h : zH} {o} (hh : zcall npc a1 a2 st sz h = some o) : ∃ as rest, st = as.reverse ++ rest ∧ as.length = a2 % 16 ∧ o = .inr (.inl (a1, as, rest, npc)) ∧ (a2 / 16 = 0 ∨ ∃ (i : Nat) (t : List zV), as = zr (i + 2) :: t ∧ i < sz ∧ (zget h i).1 + 1 = a2 / 16) := by
  obtain ⟨xs, rest, e1, e2, e3⟩ := ztk_inv hh
  rw [List.append_nil] at e3
  refine ⟨xs.reverse, rest, by rw [List.reverse_reverse]; exact e1, by rw [List.length_reverse]; exact e2, ?_⟩
  cases hb : Nat.beq (Nat.div a2 16) 0
  · rw [hb] at e3
    match hx : xs.reverse, e3 with
    | q :: t, e3 =>
      obtain ⟨i, rfl, hi, e3⟩ := zcell_inv e3
      obtain ⟨hk, e3⟩ := zwhen_inv e3
      exact ⟨(Option.some.inj e3).symm, Or.inr ⟨i, t, rfl, hi, Nat.eq_of_beq_eq_true hk⟩⟩
    | [], e3 => cases e3
  · rw [hb] at e3
    exact ⟨(Option.some.inj e3).symm, Or.inl (Nat.eq_of_beq_eq_true hb)⟩
theorem zcallI_inv {npc a1 a2 : Nat} {st : List zV} {o} (hh : zcallI npc a1 a2 st = some o) : ∃ as rest, st = as.reverse ++ rest ∧ as.length = a2 % 16 ∧ o = .inr (.inl (a1, as, rest, npc)) ∧ ∃ (q : zV) (t : List zV), as = q :: t ∧ zisR q = true := by
  obtain ⟨xs, rest, e1, e2, e3⟩ := ztk_inv hh
  rw [List.append_nil] at e3
  refine ⟨xs.reverse, rest, by rw [List.reverse_reverse]; exact e1, by rw [List.length_reverse]; exact e2, ?_⟩
  match hx : xs.reverse, e3 with
  | q :: t, e3 =>
    obtain ⟨hk, e3⟩ := zwhen_inv e3
    exact ⟨(Option.some.inj e3).symm, q, t, rfl, hk⟩
  | [], e3 => cases e3
theorem zret_inv {p : zV → Bool} {st : List zV} {o} (h : zret p st = some o) : ∃ a, st = [a] ∧ p a = true ∧ o = .inr (.inr (some a)) := by
  match st, h with
  | [a], h =>
    obtain ⟨h1, h2⟩ := zwhen_inv h
    exact ⟨a, rfl, h1, (Option.some.inj h2).symm⟩
theorem znone {o : zO} {x} (hn : o = none) (h : o = some x) {P : Prop} : P := by
  rw [hn] at h
  cases h
def zisCR : Instr → Bool
  | .invokevirtual _ => true
  | .invokestatic _ => true
  | .invokespecial _ => true
  | .ireturn => true
  | .areturn => true
  | .lreturn => true
  | .return_ => true
  | _ => false
set_option maxHeartbeats 4000000 in
theorem zstep_inr {G : zG} {ρ : Nat → Int32} {ins : Instr} {npc a1 a2 pc : Nat} {al : zLs} {ast : List zV} {sz : Nat} {h : zH} {x} (hG : ∀ a, G.1 = some a → zisI a = true → zgI ρ a (ρ 1 &&& 63)) (hs0 : zstep G ins npc a1 a2 pc al ast sz h = some (.inr x)) : zisCR ins = true := by
  cases ins with
  | aload_n i =>
    obtain ⟨a, hf, ha, hs1⟩ := zld_inv hs0
    cases hs1
  | aload i =>
    obtain ⟨a, hf, ha, hs1⟩ := zld_inv hs0
    cases hs1
  | iload_n i =>
    obtain ⟨a, hf, ha, hs1⟩ := zld_inv hs0
    cases hs1
  | iload i =>
    obtain ⟨a, hf, ha, hs1⟩ := zld_inv hs0
    cases hs1
  | lload_n i =>
    obtain ⟨a, hf, ha, hs1⟩ := zld_inv hs0
    cases hs1
  | lload i =>
    obtain ⟨a, hf, ha, hs1⟩ := zld_inv hs0
    cases hs1
  | istore_n i =>
    obtain ⟨a, r, rfl, hs1⟩ := z1_inv hs0
    obtain ⟨ha, hs2⟩ := zwhen_inv hs1
    rw [zstore_eq] at hs2
    cases hs2
  | istore i =>
    obtain ⟨a, r, rfl, hs1⟩ := z1_inv hs0
    obtain ⟨ha, hs2⟩ := zwhen_inv hs1
    rw [zstore_eq] at hs2
    cases hs2
  | astore_n i =>
    obtain ⟨a, r, rfl, hs1⟩ := z1_inv hs0
    obtain ⟨ha, hs2⟩ := zwhen_inv hs1
    rw [zstore_eq] at hs2
    cases hs2
  | astore i =>
    obtain ⟨a, r, rfl, hs1⟩ := z1_inv hs0
    obtain ⟨ha, hs2⟩ := zwhen_inv hs1
    rw [zstore_eq] at hs2
    cases hs2
  | lstore_n i =>
    obtain ⟨a, r, rfl, hs1⟩ := z1_inv hs0
    obtain ⟨ha, hs2⟩ := zwhen_inv hs1
    rw [zstore_eq] at hs2
    cases hs2
  | lstore i =>
    obtain ⟨a, r, rfl, hs1⟩ := z1_inv hs0
    obtain ⟨ha, hs2⟩ := zwhen_inv hs1
    rw [zstore_eq] at hs2
    cases hs2
  | iinc i n =>
    obtain ⟨a, hf, ha, hs1⟩ := zld_inv hs0
    obtain ⟨-, r, hs1, hr2⟩ := zinc_ok (ρ := ρ) hs1
    rw [zstore_eq] at hs1
    cases hs1
  | iconst n =>
    cases hs0
  | bipush n =>
    cases hs0
  | sipush n =>
    cases hs0
  | lconst n =>
    cases hs0
  | ldc i =>
    cases hs0
  | ldc_w i =>
    cases hs0
  | ldc2_w i =>
    cases hs0
  | iadd =>
    obtain ⟨a, d, r, rfl, hs1⟩ := z2_inv hs0
    obtain ⟨h1, h2, z, hs1, hz⟩ := zadd_ok (ρ := ρ) hs1
    cases hs1
  | isub =>
    obtain ⟨a, d, r, rfl, hs1⟩ := z2_inv hs0
    obtain ⟨h1, h2, z, hs1, hz⟩ := zsub_ok (ρ := ρ) hs1
    cases hs1
  | imul =>
    obtain ⟨a, d, r, rfl, hs1⟩ := z2_inv hs0
    obtain ⟨h1, h2, z, hs1, hz⟩ := zmul_ok (ρ := ρ) hs1
    cases hs1
  | iand =>
    obtain ⟨a, d, r, rfl, hs1⟩ := z2_inv hs0
    obtain ⟨h1, h2, z, hs1, hz⟩ := zand_ok hG (ρ := ρ) hs1
    cases hs1
  | ior =>
    obtain ⟨a, d, r, rfl, hs1⟩ := z2_inv hs0
    obtain ⟨h1, h2, z, hs1, hz⟩ := zb2_ok (ρ := ρ) hs1
    cases hs1
  | ixor =>
    obtain ⟨a, d, r, rfl, hs1⟩ := z2_inv hs0
    obtain ⟨h1, h2, z, hs1, hz⟩ := zb2_ok (ρ := ρ) hs1
    cases hs1
  | ishl =>
    obtain ⟨a, d, r, rfl, hs1⟩ := z2_inv hs0
    obtain ⟨h1, h2, z, hs1, hz⟩ := zb2_ok (f := fun x y => x <<< (y &&& 31)) (ρ := ρ) hs1
    cases hs1
  | ishr =>
    obtain ⟨a, d, r, rfl, hs1⟩ := z2_inv hs0
    obtain ⟨h1, h2, z, hs1, hz⟩ := zb2_ok (f := fun x y => x >>> (y &&& 31)) (ρ := ρ) hs1
    cases hs1
  | iushr =>
    obtain ⟨a, d, r, rfl, hs1⟩ := z2_inv hs0
    obtain ⟨h1, h2, z, hs1, hz⟩ := zb2_ok (f := fun x y => (x.toUInt32 >>> (y.toUInt32 &&& Int32.toUInt32 31)).toInt32) (ρ := ρ) hs1
    cases hs1
  | idiv =>
    obtain ⟨a, d, r, rfl, hs1⟩ := z2_inv hs0
    obtain ⟨h1, h2, z, hs1, hz⟩ := zdv_ok (ρ := ρ) hs1
    cases hs1
  | irem =>
    obtain ⟨a, d, r, rfl, hs1⟩ := z2_inv hs0
    obtain ⟨h1, h2, z, hs1, hz⟩ := zdv_ok (ρ := ρ) hs1
    cases hs1
  | ineg =>
    obtain ⟨a, r, rfl, hs1⟩ := z1_inv hs0
    obtain ⟨h1, z, hs1, hz⟩ := zu1_ok (ρ := ρ) hs1
    cases hs1
  | i2b =>
    obtain ⟨a, r, rfl, hs1⟩ := z1_inv hs0
    obtain ⟨h1, z, hs1, hz⟩ := zu1_ok (ρ := ρ) hs1
    cases hs1
  | i2l =>
    obtain ⟨a, r, rfl, hs1⟩ := z1_inv hs0
    obtain ⟨u, rfl, hs2⟩ := zint1_inv hs1
    rw [zkl_eq] at hs2
    cases hs2
  | l2i =>
    obtain ⟨a, r, rfl, hs1⟩ := z1_inv hs0
    obtain ⟨u, rfl, hs2⟩ := zlong1_inv hs1
    rw [zki_eq] at hs2
    cases hs2
  | ladd =>
    obtain ⟨a, d, r, rfl, hs1⟩ := z2_inv hs0
    obtain ⟨u, rfl, hs2⟩ := zlong1_inv hs1
    obtain ⟨u2, rfl, hs3⟩ := zlong1_inv hs2
    rw [zkl_eq] at hs3
    cases hs3
  | lshl =>
    obtain ⟨a, d, r, rfl, hs1⟩ := z2_inv hs0
    obtain ⟨u, rfl, hs2⟩ := zlong1_inv hs1
    obtain ⟨u2, rfl, hs3⟩ := zint1_inv hs2
    rw [zkl_eq] at hs3
    cases hs3
  | lushr =>
    obtain ⟨a, d, r, rfl, hs1⟩ := z2_inv hs0
    obtain ⟨u, rfl, hs2⟩ := zlong1_inv hs1
    obtain ⟨u2, rfl, hs3⟩ := zint1_inv hs2
    rw [zkl_eq] at hs3
    cases hs3
  | lcmp =>
    obtain ⟨a, d, r, rfl, hs1⟩ := z2_inv hs0
    obtain ⟨u, rfl, hs2⟩ := zlong1_inv hs1
    obtain ⟨u2, rfl, hs3⟩ := zlong1_inv hs2
    rw [zki_eq] at hs3
    cases hs3
  | dup =>
    obtain ⟨a, r, rfl, hs1⟩ := z1_inv hs0
    obtain ⟨h1, hs2⟩ := zwhen_inv hs1
    cases hs2
  | pop =>
    obtain ⟨a, r, rfl, hs1⟩ := z1_inv hs0
    obtain ⟨h1, hs2⟩ := zwhen_inv hs1
    cases hs2
  | dup2 =>
    obtain ⟨a, d, r, rfl, hs1⟩ := z2_inv hs0
    obtain ⟨h1, hs2⟩ := zwhen_inv hs1
    cases hs2
  | goto off =>
    cases hs0
  | tableswitch d lo hi offs =>
    obtain ⟨a, r, rfl, hs1⟩ := z1_inv hs0
    unfold zsw at hs1
    split at hs1
    · rename_i l0 u0 hbd
      split at hs1
      · rename_i ho
        obtain ⟨t, ht, hs2⟩ := ztgt_inv hs1
        cases hs2
      · split at hs1
        · rename_i ho
          split at hs1
          · rename_i off hoff
            obtain ⟨t, ht, hs2⟩ := ztgt_inv hs1
            cases hs2
          · cases hs1
        · cases hs1
    · cases hs1
  | lookupswitch d ps =>
    obtain ⟨a, r, rfl, hs1⟩ := z1_inv hs0
    unfold zlk at hs1
    split at hs1
    · obtain ⟨t, ht, hs2⟩ := ztgt_inv hs1
      cases hs2
    · cases hs1
  | getfield i =>
    obtain ⟨a, r, rfl, hs1⟩ := z1_inv hs0
    obtain ⟨j, rfl, hj, hs2⟩ := zcell_inv hs1
    obtain ⟨hk1, hs3⟩ := zwhen_inv hs2
    cases hs3
  | putfield i =>
    obtain ⟨a, d, r, rfl, hs1⟩ := z2_inv hs0
    obtain ⟨j, rfl, hj, hs2⟩ := zcell_inv hs1
    obtain ⟨hk1, hs3⟩ := zwhen_inv hs2
    rw [zset_eq, zset_eq] at hs3
    cases hs3
  | iaload =>
    obtain ⟨a, d, r, rfl, hs1⟩ := z2_inv hs0
    unfold zali at hs1
    split at hs1
    · split at hs1
      · rename_i n hGn
        obtain ⟨u, rfl, hu, hs2⟩ := zidx_inv hs1
        split at hs2
        · rename_i a0 ha0
          obtain ⟨hi0, hs3⟩ := zwhen_inv hs2
          cases hs3
        · cases hs2
      · cases hs1
    · obtain ⟨j, rfl, hj, hs2⟩ := zcell_inv hs1
      obtain ⟨hk1, hs3⟩ := zwhen_inv hs2
      obtain ⟨u, rfl, hu, hs4⟩ := zidx_inv hs3
      rw [zkde_eq] at hs4
      cases hs4
  | baload =>
    obtain ⟨a, d, r, rfl, hs1⟩ := z2_inv hs0
    obtain ⟨j, rfl, hj, hs2⟩ := zcell_inv hs1
    obtain ⟨hk1, hs3⟩ := zwhen_inv hs2
    obtain ⟨u, rfl, hu, hs4⟩ := zidx_inv hs3
    rw [zkde_eq] at hs4
    cases hs4
  | aaload =>
    obtain ⟨a, d, r, rfl, hs1⟩ := z2_inv hs0
    obtain ⟨j, rfl, hj, hs2⟩ := zcell_inv hs1
    obtain ⟨hk1, hs3⟩ := zwhen_inv hs2
    obtain ⟨u, rfl, hu, hs4⟩ := zidx_inv hs3
    obtain ⟨hR, hs5⟩ := zwhen_inv hs4
    cases hs5
  | iastore =>
    obtain ⟨a, d, x, r, rfl, hs1⟩ := z3_inv hs0
    obtain ⟨j, rfl, hj, hs2⟩ := zcell_inv hs1
    obtain ⟨hk1, hs3⟩ := zwhen_inv hs2
    obtain ⟨u, rfl, hu, hs4⟩ := zidx_inv hs3
    obtain ⟨n, hs4, hn48, hn⟩ := zen_ok (ρ := ρ) hs4
    rw [fN_eq, zset_eq] at hs4
    cases hs4
  | bastore =>
    obtain ⟨a, d, x, r, rfl, hs1⟩ := z3_inv hs0
    obtain ⟨j, rfl, hj, hs2⟩ := zcell_inv hs1
    cases hk0 : Nat.beq (zget h j).1 17
    · rw [hk0] at hs2
      obtain ⟨hk1, hs3⟩ := zwhen_inv hs2
      have hk1 : (zget h j).1 = 18 := Nat.eq_of_beq_eq_true hk1
      obtain ⟨hxI, z, hs3, hz⟩ := zu1_ok (ρ := ρ) hs3
      obtain ⟨u, rfl, hu, hs4⟩ := zidx_inv hs3
      obtain ⟨n, hs4, hn48, hn⟩ := zen_ok (ρ := ρ) hs4
      rw [fN_eq, zset_eq] at hs4
      cases hs4
    · rw [hk0] at hs2
      have hk1 : (zget h j).1 = 17 := Nat.eq_of_beq_eq_true hk0
      obtain ⟨hxI, z, hs2, hz⟩ := zu1_ok (ρ := ρ) hs2
      obtain ⟨u, rfl, hu, hs3⟩ := zidx_inv hs2
      obtain ⟨n, hs3, hn48, hn⟩ := zen_ok (ρ := ρ) hs3
      rw [fN_eq, zset_eq] at hs3
      cases hs3
  | aastore =>
    obtain ⟨a, d, x, r, rfl, hs1⟩ := z3_inv hs0
    obtain ⟨j, rfl, hj, hs2⟩ := zcell_inv hs1
    obtain ⟨j2, rfl, hj2, hs3⟩ := zcell_inv hs2
    obtain ⟨hk1, hs4⟩ := zwhen_inv hs3
    obtain ⟨u, rfl, hu, hs5⟩ := zidx_inv hs4
    rw [zset_eq, zset_eq] at hs5
    cases hs5
  | arraylength =>
    obtain ⟨a, r, rfl, hs1⟩ := z1_inv hs0
    unfold zalen at hs1
    split at hs1
    · split at hs1
      · rename_i n hGn
        cases hs1
      · cases hs1
    · obtain ⟨j, rfl, hj, hs2⟩ := zcell_inv hs1
      obtain ⟨hk1, hs3⟩ := zwhen_inv hs2
      cases hs3
  | new i =>
    obtain ⟨hsz, ho⟩ := znew_inv hs0
    cases ho
  | anewarray i =>
    obtain ⟨a, r, rfl, hs1⟩ := z1_inv hs0
    obtain ⟨u, rfl, hs2⟩ := zint1_inv hs1
    obtain ⟨hu, hs3⟩ := zwhen_inv hs2
    obtain ⟨hsz, ho⟩ := znew_inv hs3
    cases ho
  | ifCond cnd off =>
    cases cnd with
    | eq =>
      obtain ⟨a, r, rfl, hs1⟩ := z1_inv hs0
      rcases zbr_inv hs1 with ⟨hc, hs2⟩ | ⟨hc, hs2⟩
      · cases hs2
      · cases hs2
    | ne =>
      obtain ⟨a, r, rfl, hs1⟩ := z1_inv hs0
      rcases zbr_inv hs1 with ⟨hc, hs2⟩ | ⟨hc, hs2⟩
      · cases hs2
      · cases hs2
    | lt =>
      obtain ⟨a, r, rfl, hs1⟩ := z1_inv hs0
      rcases zbr_inv hs1 with ⟨hc, hs2⟩ | ⟨hc, hs2⟩
      · cases hs2
      · cases hs2
    | ge =>
      obtain ⟨a, r, rfl, hs1⟩ := z1_inv hs0
      rcases zbr_inv hs1 with ⟨hc, hs2⟩ | ⟨hc, hs2⟩
      · cases hs2
      · cases hs2
    | gt =>
      obtain ⟨a, r, rfl, hs1⟩ := z1_inv hs0
      rcases zbr_inv hs1 with ⟨hc, hs2⟩ | ⟨hc, hs2⟩
      · cases hs2
      · cases hs2
    | le =>
      obtain ⟨a, r, rfl, hs1⟩ := z1_inv hs0
      rcases zbr_inv hs1 with ⟨hc, hs2⟩ | ⟨hc, hs2⟩
      · cases hs2
      · cases hs2
  | if_icmp cnd off =>
    cases cnd with
    | eq =>
      obtain ⟨a, d, r, rfl, hs1⟩ := z2_inv hs0
      rcases zbr_inv hs1 with ⟨hc, hs2⟩ | ⟨hc, hs2⟩
      · cases hs2
      · cases hs2
    | ne =>
      obtain ⟨a, d, r, rfl, hs1⟩ := z2_inv hs0
      rcases zbr_inv hs1 with ⟨hc, hs2⟩ | ⟨hc, hs2⟩
      · cases hs2
      · cases hs2
    | lt =>
      obtain ⟨a, d, r, rfl, hs1⟩ := z2_inv hs0
      rcases zbr_inv hs1 with ⟨hc, hs2⟩ | ⟨hc, hs2⟩
      · cases hs2
      · cases hs2
    | ge =>
      obtain ⟨a, d, r, rfl, hs1⟩ := z2_inv hs0
      rcases zbr_inv hs1 with ⟨hc, hs2⟩ | ⟨hc, hs2⟩
      · cases hs2
      · cases hs2
    | gt =>
      obtain ⟨a, d, r, rfl, hs1⟩ := z2_inv hs0
      rcases zbr_inv hs1 with ⟨hc, hs2⟩ | ⟨hc, hs2⟩
      · cases hs2
      · cases hs2
    | le =>
      obtain ⟨a, d, r, rfl, hs1⟩ := z2_inv hs0
      rcases zbr_inv hs1 with ⟨hc, hs2⟩ | ⟨hc, hs2⟩
      · cases hs2
      · cases hs2
  | newarray t =>
    cases t with
    | int =>
      obtain ⟨a, r, rfl, hs1⟩ := z1_inv hs0
      obtain ⟨u, rfl, hs2⟩ := zint1_inv hs1
      obtain ⟨hu, hs3⟩ := zwhen_inv hs2
      obtain ⟨hsz, ho⟩ := znew_inv hs3
      cases ho
    | byte =>
      obtain ⟨a, r, rfl, hs1⟩ := z1_inv hs0
      obtain ⟨u, rfl, hs2⟩ := zint1_inv hs1
      obtain ⟨hu, hs3⟩ := zwhen_inv hs2
      obtain ⟨hsz, ho⟩ := znew_inv hs3
      cases ho
    | boolean =>
      obtain ⟨a, r, rfl, hs1⟩ := z1_inv hs0
      obtain ⟨u, rfl, hs2⟩ := zint1_inv hs1
      obtain ⟨hu, hs3⟩ := zwhen_inv hs2
      obtain ⟨hsz, ho⟩ := znew_inv hs3
      cases ho
    | _ => exact znone rfl hs0
  | multianewarray i k =>
    match k, hs0 with
    | 0, hs0 => exact znone rfl hs0
    | 1, hs0 => exact znone rfl hs0
    | k + 3, hs0 => exact znone rfl hs0
    | 2, hs0 =>
      obtain ⟨a, d, r, rfl, hs1⟩ := z2_inv hs0
      obtain ⟨u, rfl, hs2⟩ := zint1_inv hs1
      obtain ⟨w0, rfl, hs3⟩ := zint1_inv hs2
      obtain ⟨hu, hs4⟩ := zwhen_inv hs3
      obtain ⟨t2, ht2, -⟩ := zfillR_eq (β := zO) u 0 (sz + 3) (zrep (zr 0) (Nat.succ (Nat.log2 u)) 0) (fun t => zset h (nat_lit 19, u, nat_lit 0, t) sz (fun h1 => zfillH (nat_lit 16, w0, nat_lit 0, .leaf (zr 0)) u (Nat.succ sz) h1 (fun h2 => fN (Nat.succ (Nat.succ sz)) (fun q => some (.inl (npc, al, zr q :: r, h2, Nat.succ u, Nat.add u (Nat.mul u w0)))))))
      have hs9 := ht2.symm.trans hs4
      rw [zset_eq] at hs9
      obtain ⟨h3, hh3, -⟩ := zfillH_eq (β := zO) (16, w0, 0, .leaf (zr 0)) u (Nat.succ sz) (zput h (19, u, 0, t2) sz) (fun h2 => fN (Nat.succ (Nat.succ sz)) (fun q => some (.inl (npc, al, zr q :: r, h2, Nat.succ u, Nat.add u (Nat.mul u w0)))))
      have hs8 := hh3.symm.trans hs9
      rw [fN_eq] at hs8
      cases hs8
  | invokevirtual i => rfl
  | invokestatic i => rfl
  | invokespecial i => rfl
  | ireturn => rfl
  | areturn => rfl
  | lreturn => rfl
  | return_ => rfl
  | _ => exact znone rfl hs0
set_option maxHeartbeats 2000000 in
theorem zgo_ok {p : Program} {l : Launch} {e : Env} {R : Room} {s : State} {m : MethodId} {args : Array Value} {below : List Frame} {meth : Method} {c : Code} {H : Heap} {locs : List Loc} {cells slots : Nat} {Q : State → Prop} {n0 : Nat} {D : va_G} {cid : Nat → ClassId} {ρ : Nat → Int32} {b L : Nat} {xs : Nat → Int32} {oc : Nat} {ini : Bool} {cc : ByteArray} {nL : Nat} {rt : Option FieldType} {tb : zTb} {ys : List MethodName} {G : zG} {pc npc a1 a2 : Nat} {al al' : zLs} {ast ast' : List zV} {sz dz du : Nat} {h h' : zH} {ls : Array Slot} {st : List Value} {ws : va_W} {pc' : Nat} {ins : Instr}
    (C : zCx p s m args meth c n0 D cid b L xs oc ini cc nL rt) (F : zFx tb ys) (hG : zGok G ρ L xs) (hch : zchI tb oc ini nL rt pc ins a1 a2 = true) (hd : decode cc pc = .ok (ins, if zisSw ins then npc - pc else zlen ins)) (hn : zisSw ins = false → npc = pc + zlen ins)
    (hs0 : zstep G ins npc a1 a2 pc al ast sz h = some (.inl (pc', al', ast', h', dz, du))) (hA : zAt D cid ρ b n0 nL s al ast sz h ls st ws H locs) (hcells : cells + dz ≤ R.cells) (hslots : slots + du ≤ R.slots)
    (kk : ∀ (ws' : va_W) (H' : Heap) (locs' : List Loc) (ls' : Array Slot) (st' : List Value), zAt D cid ρ b n0 nL s al' ast' (sz + dz) h' ls' st' ws' H' locs' → (∃ xs, ws'.map Prod.fst = ws.map Prod.fst ++ xs) → W p l e R s m args below meth c H' locs' (cells + dz) (slots + du) Q (F0 m pc' ls' st')) : W p l e R s m args below meth c H locs cells slots Q (F0 m pc ls st) := by
  cases ins with
  | aload_n i => exact zs_aload_n C F hG hch hd (hn rfl) hs0 hA hcells hslots kk
  | aload i => exact zs_aload C F hG hch hd (hn rfl) hs0 hA hcells hslots kk
  | iload_n i => exact zs_iload_n C F hG hch hd (hn rfl) hs0 hA hcells hslots kk
  | iload i => exact zs_iload C F hG hch hd (hn rfl) hs0 hA hcells hslots kk
  | lload_n i => exact zs_lload_n C F hG hch hd (hn rfl) hs0 hA hcells hslots kk
  | lload i => exact zs_lload C F hG hch hd (hn rfl) hs0 hA hcells hslots kk
  | istore_n i => exact zs_istore_n C F hG hch hd (hn rfl) hs0 hA hcells hslots kk
  | istore i => exact zs_istore C F hG hch hd (hn rfl) hs0 hA hcells hslots kk
  | astore_n i => exact zs_astore_n C F hG hch hd (hn rfl) hs0 hA hcells hslots kk
  | astore i => exact zs_astore C F hG hch hd (hn rfl) hs0 hA hcells hslots kk
  | lstore_n i => exact zs_lstore_n C F hG hch hd (hn rfl) hs0 hA hcells hslots kk
  | lstore i => exact zs_lstore C F hG hch hd (hn rfl) hs0 hA hcells hslots kk
  | iinc i n => exact zs_iinc C F hG hch hd (hn rfl) hs0 hA hcells hslots kk
  | iconst n => exact zs_iconst C F hG hch hd (hn rfl) hs0 hA hcells hslots kk
  | bipush n => exact zs_bipush C F hG hch hd (hn rfl) hs0 hA hcells hslots kk
  | sipush n => exact zs_sipush C F hG hch hd (hn rfl) hs0 hA hcells hslots kk
  | lconst n => exact zs_lconst C F hG hch hd (hn rfl) hs0 hA hcells hslots kk
  | ldc i => exact zs_ldc C F hG hch hd (hn rfl) hs0 hA hcells hslots kk
  | ldc_w i => exact zs_ldc_w C F hG hch hd (hn rfl) hs0 hA hcells hslots kk
  | ldc2_w i => exact zs_ldc2_w C F hG hch hd (hn rfl) hs0 hA hcells hslots kk
  | iadd => exact zs_iadd C F hG hch hd (hn rfl) hs0 hA hcells hslots kk
  | isub => exact zs_isub C F hG hch hd (hn rfl) hs0 hA hcells hslots kk
  | imul => exact zs_imul C F hG hch hd (hn rfl) hs0 hA hcells hslots kk
  | iand => exact zs_iand C F hG hch hd (hn rfl) hs0 hA hcells hslots kk
  | ior => exact zs_ior C F hG hch hd (hn rfl) hs0 hA hcells hslots kk
  | ixor => exact zs_ixor C F hG hch hd (hn rfl) hs0 hA hcells hslots kk
  | ishl => exact zs_ishl C F hG hch hd (hn rfl) hs0 hA hcells hslots kk
  | ishr => exact zs_ishr C F hG hch hd (hn rfl) hs0 hA hcells hslots kk
  | iushr => exact zs_iushr C F hG hch hd (hn rfl) hs0 hA hcells hslots kk
  | idiv => exact zs_idiv C F hG hch hd (hn rfl) hs0 hA hcells hslots kk
  | irem => exact zs_irem C F hG hch hd (hn rfl) hs0 hA hcells hslots kk
  | ineg => exact zs_ineg C F hG hch hd (hn rfl) hs0 hA hcells hslots kk
  | i2b => exact zs_i2b C F hG hch hd (hn rfl) hs0 hA hcells hslots kk
  | i2l => exact zs_i2l C F hG hch hd (hn rfl) hs0 hA hcells hslots kk
  | l2i => exact zs_l2i C F hG hch hd (hn rfl) hs0 hA hcells hslots kk
  | ladd => exact zs_ladd C F hG hch hd (hn rfl) hs0 hA hcells hslots kk
  | lshl => exact zs_lshl C F hG hch hd (hn rfl) hs0 hA hcells hslots kk
  | lushr => exact zs_lushr C F hG hch hd (hn rfl) hs0 hA hcells hslots kk
  | lcmp => exact zs_lcmp C F hG hch hd (hn rfl) hs0 hA hcells hslots kk
  | dup => exact zs_dup C F hG hch hd (hn rfl) hs0 hA hcells hslots kk
  | pop => exact zs_pop C F hG hch hd (hn rfl) hs0 hA hcells hslots kk
  | dup2 => exact zs_dup2 C F hG hch hd (hn rfl) hs0 hA hcells hslots kk
  | goto off => exact zs_goto C F hG hch hd (hn rfl) hs0 hA hcells hslots kk
  | getfield i => exact zs_getfield C F hG hch hd (hn rfl) hs0 hA hcells hslots kk
  | putfield i => exact zs_putfield C F hG hch hd (hn rfl) hs0 hA hcells hslots kk
  | iaload => exact zs_iaload C F hG hch hd (hn rfl) hs0 hA hcells hslots kk
  | baload => exact zs_baload C F hG hch hd (hn rfl) hs0 hA hcells hslots kk
  | aaload => exact zs_aaload C F hG hch hd (hn rfl) hs0 hA hcells hslots kk
  | iastore => exact zs_iastore C F hG hch hd (hn rfl) hs0 hA hcells hslots kk
  | bastore => exact zs_bastore C F hG hch hd (hn rfl) hs0 hA hcells hslots kk
  | aastore => exact zs_aastore C F hG hch hd (hn rfl) hs0 hA hcells hslots kk
  | arraylength => exact zs_arraylength C F hG hch hd (hn rfl) hs0 hA hcells hslots kk
  | new i => exact zs_new C F hG hch hd (hn rfl) hs0 hA hcells hslots kk
  | anewarray i => exact zs_anewarray C F hG hch hd (hn rfl) hs0 hA hcells hslots kk
  | ifCond cnd off =>
    cases cnd with
    | eq => exact zs_if_eq C F hG hch hd (hn rfl) hs0 hA hcells hslots kk
    | ne => exact zs_if_ne C F hG hch hd (hn rfl) hs0 hA hcells hslots kk
    | lt => exact zs_if_lt C F hG hch hd (hn rfl) hs0 hA hcells hslots kk
    | ge => exact zs_if_ge C F hG hch hd (hn rfl) hs0 hA hcells hslots kk
    | gt => exact zs_if_gt C F hG hch hd (hn rfl) hs0 hA hcells hslots kk
    | le => exact zs_if_le C F hG hch hd (hn rfl) hs0 hA hcells hslots kk
  | if_icmp cnd off =>
    cases cnd with
    | eq => exact zs_icmp_eq C F hG hch hd (hn rfl) hs0 hA hcells hslots kk
    | ne => exact zs_icmp_ne C F hG hch hd (hn rfl) hs0 hA hcells hslots kk
    | lt => exact zs_icmp_lt C F hG hch hd (hn rfl) hs0 hA hcells hslots kk
    | ge => exact zs_icmp_ge C F hG hch hd (hn rfl) hs0 hA hcells hslots kk
    | gt => exact zs_icmp_gt C F hG hch hd (hn rfl) hs0 hA hcells hslots kk
    | le => exact zs_icmp_le C F hG hch hd (hn rfl) hs0 hA hcells hslots kk
  | newarray t =>
    cases t with
    | int => exact zs_newarray_int C F hG hch hd (hn rfl) hs0 hA hcells hslots kk
    | byte => exact zs_newarray_byte C F hG hch hd (hn rfl) hs0 hA hcells hslots kk
    | boolean => exact zs_newarray_boolean C F hG hch hd (hn rfl) hs0 hA hcells hslots kk
    | _ => exact znone rfl hs0
  | multianewarray i k =>
    match k, hs0, hch, hd, hn with
    | 0, hs0, _, _, _ => exact znone rfl hs0
    | 1, hs0, _, _, _ => exact znone rfl hs0
    | 2, hs0, hch, hd, hn => exact zs_multianewarray C F hG hch hd (hn rfl) hs0 hA hcells hslots kk
    | k + 3, hs0, _, _, _ => exact znone rfl hs0
  | tableswitch d lo hi offs => exact zs_tableswitch C F hG hch hd hs0 hA hcells hslots kk
  | lookupswitch d ps => exact zs_lookupswitch C F hG hch hd hs0 hA hcells hslots kk
  | invokevirtual i =>
    obtain ⟨as, rest, -, -, h0, -⟩ := zcall_inv hs0
    cases h0
  | invokestatic i =>
    obtain ⟨as, rest, -, -, h0, -⟩ := zcall_inv hs0
    cases h0
  | invokespecial i =>
    obtain ⟨as, rest, -, -, h0, -⟩ := zcallI_inv hs0
    cases h0
  | ireturn =>
    obtain ⟨a, -, -, h0⟩ := zret_inv hs0
    cases h0
  | areturn =>
    obtain ⟨a, -, -, h0⟩ := zret_inv hs0
    cases h0
  | lreturn =>
    obtain ⟨a, -, -, h0⟩ := zret_inv hs0
    cases h0
  | return_ =>
    match ast, hs0 with
    | [], hs0 => cases hs0
    | _ :: _, hs0 => cases hs0
  | _ => exact znone rfl hs0

/-! ===== what a method hands back ===== -/
def zRet (ρ : Nat → Int32) (b : Nat) (as : List Nat) (rt : Option FieldType) (ins : Instr) (v : Option zV) (vs : List Value) : Prop :=
  (v = none ∧ ins = .return_ ∧ rt = none ∧ vs = []) ∨
  ∃ (a : zV) (w : Value) (ty : FieldType), v = some a ∧ vs = [w] ∧ zg ρ b as a w ∧ rt = some ty ∧
    ((ins = .ireturn ∧ ∃ x, w = .int x ∧ narrow ty (.int x) = .int x) ∨ (ins = .areturn ∧ ((∃ n, ty = .object n) ∨ ∃ t, ty = .array t) ∧ ∃ q, w = .ref q) ∨ (ins = .lreturn ∧ ty = .long ∧ ∃ x, w = .long x))
theorem zret_ok {tb : zTb} {G : zG} {oc : Nat} {ini : Bool} {nL : Nat} {rt : Option FieldType} {pc npc a1 a2 : Nat} {ins : Instr} {al : zLs} {ast : List zV} {sz : Nat} {h : zH} {v : Option zV} {ρ : Nat → Int32} {b : Nat} {as : List Nat} {st : List Value} (hch : zchI tb oc ini nL rt pc ins a1 a2 = true) (hs : zstep G ins npc a1 a2 pc al ast sz h = some (.inr (.inr v))) (hS : zS ρ b as ast st) (hG : ∀ a, G.1 = some a → zisI a = true → zgI ρ a (ρ 1 &&& 63)) : zlen ins = 1 ∧ zisSw ins = false ∧ zRet ρ b as rt ins v st := by
  cases ins with
  | ireturn =>
    obtain ⟨a, rfl, h1, h0⟩ := zret_inv hs
    cases h0
    obtain ⟨w, u, rfl, hg, hS2⟩ := zS_cons hS
    cases zS_nil hS2
    have hch : (decide (rt.map zfo = some a1) && (a1 == 0 || a1 == 2)) = true := hch
    rw [Bool.and_eq_true, Bool.or_eq_true, beq_iff_eq, beq_iff_eq] at hch
    have h2 := of_decide_eq_true hch.1
    obtain ⟨ty, rfl, h3⟩ := Option.map_eq_some_iff.mp h2
    have h4 : a1 ≤ 3 := by omega
    obtain ⟨n1, -⟩ := zfit_ok h3 h4 h1 hg
    have hI : zisI a = true := by
      rcases hch.2 with e | e
      · rw [e] at h1
        exact h1
      · rw [e] at h1
        match a, h1 with
        | .inl _, _ => rfl
    obtain ⟨x, rfl, -⟩ := zg_I hg hI
    exact ⟨rfl, rfl, Or.inr ⟨a, _, ty, rfl, rfl, hg, rfl, Or.inl ⟨rfl, x, rfl, n1⟩⟩⟩
  | areturn =>
    obtain ⟨a, rfl, h1, h0⟩ := zret_inv hs
    cases h0
    obtain ⟨w, u, rfl, hg, hS2⟩ := zS_cons hS
    cases zS_nil hS2
    have h2 := of_decide_eq_true hch
    obtain ⟨ty, rfl, h3⟩ := Option.map_eq_some_iff.mp h2
    obtain ⟨q, rfl⟩ := zg_R hg h1
    refine ⟨rfl, rfl, Or.inr ⟨a, _, ty, rfl, rfl, hg, rfl, Or.inr (Or.inl ⟨rfl, ?_, q, rfl⟩)⟩⟩
    cases ty with
    | object C => exact Or.inl ⟨C, rfl⟩
    | array t => exact Or.inr ⟨t, rfl⟩
    | _ => cases h3
  | lreturn =>
    obtain ⟨a, rfl, h1, h0⟩ := zret_inv hs
    cases h0
    obtain ⟨w, u, rfl, hg, hS2⟩ := zS_cons hS
    cases zS_nil hS2
    have h2 := of_decide_eq_true hch
    obtain ⟨ty, rfl, h3⟩ := Option.map_eq_some_iff.mp h2
    obtain ⟨q, -, rfl⟩ := zg_L hg h1
    refine ⟨rfl, rfl, Or.inr ⟨a, _, ty, rfl, rfl, hg, rfl, Or.inr (Or.inr ⟨rfl, ?_, _, rfl⟩)⟩⟩
    cases ty with
    | long => rfl
    | _ => cases h3
  | return_ =>
    match ast, hs, hS with
    | [], hs, hS =>
      cases hs
      exact ⟨rfl, rfl, Or.inl ⟨rfl, rfl, of_decide_eq_true hch, zS_nil hS⟩⟩
    | _ :: _, hs, _ => cases hs
  | invokevirtual i =>
    obtain ⟨as, rest, -, -, h0, -⟩ := zcall_inv hs
    cases h0
  | invokestatic i =>
    obtain ⟨as, rest, -, -, h0, -⟩ := zcall_inv hs
    cases h0
  | invokespecial i =>
    obtain ⟨as, rest, -, -, h0, -⟩ := zcallI_inv hs
    cases h0
  | _ => exact absurd (zstep_inr hG hs) Bool.noConfusion
