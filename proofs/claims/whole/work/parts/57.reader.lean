theorem dX7_text_0 : decode cX7_text 0 = .ok (.aload_n 0, 1) := by decide +kernel
theorem dX7_text_1 : decode cX7_text 1 = .ok (.iconst 0, 1) := by decide +kernel
theorem dX7_text_2 : decode cX7_text 2 = .ok (.putfield 82, 3) := by decide +kernel
theorem dX7_text_5 : decode cX7_text 5 = .ok (.aload_n 0, 1) := by decide +kernel
theorem dX7_text_6 : decode cX7_text 6 = .ok (.iconst 0, 1) := by decide +kernel
theorem dX7_text_7 : decode cX7_text 7 = .ok (.putfield 94, 3) := by decide +kernel
theorem dX7_text_10 : decode cX7_text 10 = .ok (.aload_n 0, 1) := by decide +kernel
theorem dX7_text_11 : decode cX7_text 11 = .ok (.iconst 0, 1) := by decide +kernel
theorem dX7_text_12 : decode cX7_text 12 = .ok (.putfield 123, 3) := by decide +kernel
theorem dX7_text_15 : decode cX7_text 15 = .ok (.aload_n 0, 1) := by decide +kernel
theorem dX7_text_16 : decode cX7_text 16 = .ok (.iconst 0, 1) := by decide +kernel
theorem dX7_text_17 : decode cX7_text 17 = .ok (.putfield 130, 3) := by decide +kernel
theorem dX7_text_20 : decode cX7_text 20 = .ok (.aload_n 0, 1) := by decide +kernel
theorem dX7_text_21 : decode cX7_text 21 = .ok (.iconst 0, 1) := by decide +kernel
theorem dX7_text_22 : decode cX7_text 22 = .ok (.putfield 133, 3) := by decide +kernel
theorem dX7_text_25 : decode cX7_text 25 = .ok (.aload_n 0, 1) := by decide +kernel
theorem dX7_text_26 : decode cX7_text 26 = .ok (.iconst 0, 1) := by decide +kernel
theorem dX7_text_27 : decode cX7_text 27 = .ok (.putfield 147, 3) := by decide +kernel
theorem dX7_text_30 : decode cX7_text 30 = .ok (.aload_n 0, 1) := by decide +kernel
theorem dX7_text_31 : decode cX7_text 31 = .ok (.iconst 0, 1) := by decide +kernel
theorem dX7_text_32 : decode cX7_text 32 = .ok (.putfield 138, 3) := by decide +kernel
theorem dX7_text_35 : decode cX7_text 35 = .ok (.iconst 0, 1) := by decide +kernel
theorem dX7_text_36 : decode cX7_text 36 = .ok (.istore_n 1, 1) := by decide +kernel
theorem dX7_text_37 : decode cX7_text 37 = .ok (.iconst 0, 1) := by decide +kernel
theorem dX7_text_38 : decode cX7_text 38 = .ok (.istore_n 2, 1) := by decide +kernel
theorem dX7_text_39 : decode cX7_text 39 = .ok (.iload_n 2, 1) := by decide +kernel
theorem dX7_text_40 : decode cX7_text 40 = .ok (.bipush 20, 2) := by decide +kernel
theorem dX7_text_42 : decode cX7_text 42 = .ok (.if_icmp .ge 16, 3) := by decide +kernel
theorem dX7_text_45 : decode cX7_text 45 = .ok (.aload_n 0, 1) := by decide +kernel
theorem dX7_text_46 : decode cX7_text 46 = .ok (.getfield 16, 3) := by decide +kernel
theorem dX7_text_49 : decode cX7_text 49 = .ok (.iload_n 2, 1) := by decide +kernel
theorem dX7_text_50 : decode cX7_text 50 = .ok (.iconst 0, 1) := by decide +kernel
theorem dX7_text_51 : decode cX7_text 51 = .ok (.iastore, 1) := by decide +kernel
theorem dX7_text_52 : decode cX7_text 52 = .ok (.iinc 2 1, 3) := by decide +kernel
theorem dX7_text_55 : decode cX7_text 55 = .ok (.goto (-16), 3) := by decide +kernel
theorem dX7_text_58 : decode cX7_text 58 = .ok (.aload_n 0, 1) := by decide +kernel
theorem dX7_text_59 : decode cX7_text 59 = .ok (.invokevirtual 116, 3) := by decide +kernel
theorem dX7_text_62 : decode cX7_text 62 = .ok (.aload_n 0, 1) := by decide +kernel
theorem dX7_text_63 : decode cX7_text 63 = .ok (.getfield 82, 3) := by decide +kernel
theorem dX7_text_66 : decode cX7_text 66 = .ok (.ifCond .ne 20, 3) := by decide +kernel
theorem dX7_text_69 : decode cX7_text 69 = .ok (.aload_n 0, 1) := by decide +kernel
theorem dX7_text_70 : decode cX7_text 70 = .ok (.getfield 91, 3) := by decide +kernel
theorem dX7_text_73 : decode cX7_text 73 = .ok (.ifCond .eq 13, 3) := by decide +kernel
theorem dX7_text_76 : decode cX7_text 76 = .ok (.aload_n 0, 1) := by decide +kernel
theorem dX7_text_77 : decode cX7_text 77 = .ok (.invokevirtual 153, 3) := by decide +kernel
theorem dX7_text_80 : decode cX7_text 80 = .ok (.iinc 1 1, 3) := by decide +kernel
theorem dX7_text_83 : decode cX7_text 83 = .ok (.goto (-21), 3) := by decide +kernel
theorem dX7_text_86 : decode cX7_text 86 = .ok (.aload_n 0, 1) := by decide +kernel
theorem dX7_text_87 : decode cX7_text 87 = .ok (.getfield 82, 3) := by decide +kernel
theorem dX7_text_90 : decode cX7_text 90 = .ok (.ifCond .ne 21, 3) := by decide +kernel
theorem dX7_text_93 : decode cX7_text 93 = .ok (.aload_n 0, 1) := by decide +kernel
theorem dX7_text_94 : decode cX7_text 94 = .ok (.getfield 138, 3) := by decide +kernel
theorem dX7_text_97 : decode cX7_text 97 = .ok (.aload_n 0, 1) := by decide +kernel
theorem dX7_text_98 : decode cX7_text 98 = .ok (.getfield 123, 3) := by decide +kernel
theorem dX7_text_101 : decode cX7_text 101 = .ok (.ishr, 1) := by decide +kernel
theorem dX7_text_102 : decode cX7_text 102 = .ok (.ifCond .eq 9, 3) := by decide +kernel
theorem dX7_text_105 : decode cX7_text 105 = .ok (.aload_n 0, 1) := by decide +kernel
theorem dX7_text_106 : decode cX7_text 106 = .ok (.bipush 6, 2) := by decide +kernel
theorem dX7_text_108 : decode cX7_text 108 = .ok (.invokevirtual 112, 3) := by decide +kernel
theorem dX7_text_111 : decode cX7_text 111 = .ok (.aload_n 0, 1) := by decide +kernel
theorem dX7_text_112 : decode cX7_text 112 = .ok (.iconst 0, 1) := by decide +kernel
theorem dX7_text_113 : decode cX7_text 113 = .ok (.putfield 78, 3) := by decide +kernel
theorem dX7_text_116 : decode cX7_text 116 = .ok (.aload_n 0, 1) := by decide +kernel
theorem dX7_text_117 : decode cX7_text 117 = .ok (.aload_n 0, 1) := by decide +kernel
theorem dX7_text_118 : decode cX7_text 118 = .ok (.getfield 82, 3) := by decide +kernel
theorem dX7_text_121 : decode cX7_text 121 = .ok (.putfield 156, 3) := by decide +kernel
theorem dX7_text_124 : decode cX7_text 124 = .ok (.aload_n 0, 1) := by decide +kernel
theorem dX7_text_125 : decode cX7_text 125 = .ok (.getfield 82, 3) := by decide +kernel
theorem dX7_text_128 : decode cX7_text 128 = .ok (.ifCond .le 11, 3) := by decide +kernel
theorem dX7_text_131 : decode cX7_text 131 = .ok (.bipush (-10), 2) := by decide +kernel
theorem dX7_text_133 : decode cX7_text 133 = .ok (.aload_n 0, 1) := by decide +kernel
theorem dX7_text_134 : decode cX7_text 134 = .ok (.getfield 88, 3) := by decide +kernel
theorem dX7_text_137 : decode cX7_text 137 = .ok (.isub, 1) := by decide +kernel
theorem dX7_text_138 : decode cX7_text 138 = .ok (.ireturn, 1) := by decide +kernel
theorem dX7_text_139 : decode cX7_text 139 = .ok (.iconst 0, 1) := by decide +kernel
theorem dX7_text_140 : decode cX7_text 140 = .ok (.istore_n 2, 1) := by decide +kernel
theorem dX7_text_141 : decode cX7_text 141 = .ok (.iload_n 2, 1) := by decide +kernel
theorem dX7_text_142 : decode cX7_text 142 = .ok (.bipush 20, 2) := by decide +kernel
theorem dX7_text_144 : decode cX7_text 144 = .ok (.if_icmp .ge 39, 3) := by decide +kernel
theorem dX7_text_147 : decode cX7_text 147 = .ok (.aload_n 0, 1) := by decide +kernel
theorem dX7_text_148 : decode cX7_text 148 = .ok (.getfield 7, 3) := by decide +kernel
theorem dX7_text_151 : decode cX7_text 151 = .ok (.iload_n 2, 1) := by decide +kernel
theorem dX7_text_152 : decode cX7_text 152 = .ok (.aload_n 0, 1) := by decide +kernel
theorem dX7_text_153 : decode cX7_text 153 = .ok (.getfield 16, 3) := by decide +kernel
theorem dX7_text_156 : decode cX7_text 156 = .ok (.iload_n 2, 1) := by decide +kernel
theorem dX7_text_157 : decode cX7_text 157 = .ok (.iaload, 1) := by decide +kernel
theorem dX7_text_158 : decode cX7_text 158 = .ok (.iastore, 1) := by decide +kernel
theorem dX7_text_159 : decode cX7_text 159 = .ok (.aload_n 0, 1) := by decide +kernel
theorem dX7_text_160 : decode cX7_text 160 = .ok (.getfield 13, 3) := by decide +kernel
theorem dX7_text_163 : decode cX7_text 163 = .ok (.iload_n 2, 1) := by decide +kernel
theorem dX7_text_164 : decode cX7_text 164 = .ok (.bipush 6, 2) := by decide +kernel
theorem dX7_text_166 : decode cX7_text 166 = .ok (.irem, 1) := by decide +kernel
theorem dX7_text_167 : decode cX7_text 167 = .ok (.aload_n 0, 1) := by decide +kernel
theorem dX7_text_168 : decode cX7_text 168 = .ok (.getfield 19, 3) := by decide +kernel
theorem dX7_text_171 : decode cX7_text 171 = .ok (.iload_n 2, 1) := by decide +kernel
theorem dX7_text_172 : decode cX7_text 172 = .ok (.bipush 6, 2) := by decide +kernel
theorem dX7_text_174 : decode cX7_text 174 = .ok (.irem, 1) := by decide +kernel
theorem dX7_text_175 : decode cX7_text 175 = .ok (.iaload, 1) := by decide +kernel
theorem dX7_text_176 : decode cX7_text 176 = .ok (.iastore, 1) := by decide +kernel
theorem dX7_text_177 : decode cX7_text 177 = .ok (.iinc 2 1, 3) := by decide +kernel
theorem dX7_text_180 : decode cX7_text 180 = .ok (.goto (-39), 3) := by decide +kernel
theorem dX7_text_183 : decode cX7_text 183 = .ok (.aload_n 0, 1) := by decide +kernel
theorem dX7_text_184 : decode cX7_text 184 = .ok (.aload_n 0, 1) := by decide +kernel
theorem dX7_text_185 : decode cX7_text 185 = .ok (.getfield 123, 3) := by decide +kernel
theorem dX7_text_188 : decode cX7_text 188 = .ok (.putfield 159, 3) := by decide +kernel
theorem dX7_text_191 : decode cX7_text 191 = .ok (.aload_n 0, 1) := by decide +kernel
theorem dX7_text_192 : decode cX7_text 192 = .ok (.aload_n 0, 1) := by decide +kernel
theorem dX7_text_193 : decode cX7_text 193 = .ok (.getfield 130, 3) := by decide +kernel
theorem dX7_text_196 : decode cX7_text 196 = .ok (.putfield 162, 3) := by decide +kernel
theorem dX7_text_199 : decode cX7_text 199 = .ok (.aload_n 0, 1) := by decide +kernel
theorem dX7_text_200 : decode cX7_text 200 = .ok (.aload_n 0, 1) := by decide +kernel
theorem dX7_text_201 : decode cX7_text 201 = .ok (.getfield 133, 3) := by decide +kernel
theorem dX7_text_204 : decode cX7_text 204 = .ok (.putfield 165, 3) := by decide +kernel
theorem dX7_text_207 : decode cX7_text 207 = .ok (.aload_n 0, 1) := by decide +kernel
theorem dX7_text_208 : decode cX7_text 208 = .ok (.iconst 0, 1) := by decide +kernel
theorem dX7_text_209 : decode cX7_text 209 = .ok (.putfield 168, 3) := by decide +kernel
theorem dX7_text_212 : decode cX7_text 212 = .ok (.aload_n 0, 1) := by decide +kernel
theorem dX7_text_213 : decode cX7_text 213 = .ok (.getfield 59, 3) := by decide +kernel
theorem dX7_text_216 : decode cX7_text 216 = .ok (.iconst 0, 1) := by decide +kernel
theorem dX7_text_217 : decode cX7_text 217 = .ok (.iconst 0, 1) := by decide +kernel
theorem dX7_text_218 : decode cX7_text 218 = .ok (.bastore, 1) := by decide +kernel
theorem dX7_text_219 : decode cX7_text 219 = .ok (.aload_n 0, 1) := by decide +kernel
theorem dX7_text_220 : decode cX7_text 220 = .ok (.getfield 59, 3) := by decide +kernel
theorem dX7_text_223 : decode cX7_text 223 = .ok (.iconst 1, 1) := by decide +kernel
theorem dX7_text_224 : decode cX7_text 224 = .ok (.iconst 0, 1) := by decide +kernel
theorem dX7_text_225 : decode cX7_text 225 = .ok (.bastore, 1) := by decide +kernel
theorem dX7_text_226 : decode cX7_text 226 = .ok (.iload_n 1, 1) := by decide +kernel
theorem dX7_text_227 : decode cX7_text 227 = .ok (.ireturn, 1) := by decide +kernel
/-! ===== the reference's text() ===== -/
theorem wM_v (s : Nat → Int32) (la : Nat → Int32) (r : rT) (v : vT) (c : Nat → Nat → Int32) (l : Nat → Int32) (tn : Int32) (p : Nat → Int32) (pa : Nat → Nat → Int32) (m : Nat) (q : rT) (b : Int32) (x : Nat → Nat) (h : Nat → Nat → Int64) (v' : vT) (h0 : v 0 = v' 0) (h1 : v 1 = v' 1) (h2 : v 2 = v' 2) (h3 : v 3 = v' 3) (h40 : v 4 0 = v' 4 0) (h41 : v 4 1 = v' 4 1) (h4 : ∀ j, v 4 (2 + j) = v' 4 (2 + j)) (h5 : v 5 7 = v' 5 7) : (wM s la r v c l tn p pa m q b x h) = (wM s la r v' c l tn p pa m q b x h) := by
  have e : (fun j => nI (v 4 (2 + j))) = (fun j => nI (v' 4 (2 + j))) := funext fun j => congrArg nI (h4 j)
  unfold wM
  rw [h0, h1, h2, h3, h40, h41, h5, e]
def dBd (d : rT) : Prop := (∀ i, d 0 i ≤ 4) ∧ (∀ i, d 1 i ≤ 9) ∧ (∀ i, d 2 i ≤ 9) ∧ (∀ i, d 3 i ≤ 99) ∧ (∀ i, d 4 i ≤ 5) ∧ ∀ i, d 5 i ≤ 9
theorem dOK_cl {d : rT} (h : dBd d) : dOK (rclear d) := ⟨⟨rfl, rfl⟩, ⟨show 1 ≤ 3 by decide, show 3 ≤ 9 by decide, show 9 ≤ 99 by decide⟩, h⟩
/-- the draft, once all is read, as the realm that it tells -/
theorem txD_ok {d : rT} {y4 : Nat} (h : dOK d) (h0 : d 6 0 ≤ 3) (h1 : d 6 1 ≤ 4) (h2 : d 6 2 ≤ 3) : rOK (rset d 6 3 (d 6 3 &&& (7 - y4))) := by
  obtain ⟨⟨g1, g2⟩, ⟨g3, g4, g5⟩, g6, g7, g8, g9, g10, g11⟩ := h
  refine ⟨h0, h1, h2, ?_, g3, g4, g5, ?_, g6, g7, g8, g9, g10, g11⟩
  · show d 6 3 &&& (7 - y4) < 2 ^ d 6 0
    have h3 := Nat.two_pow_pos (d 6 0)
    exact Nat.lt_of_le_of_lt Nat.and_le_left (by omega)
  · show d 6 6 ≤ 99
    omega
theorem bt_ev : ∀ h, h < 4 → ∀ y, y < 8 → ∀ i, i < h → y / 2 ^ h = 0 → nI (bit y i) = nI (1 - bit ((2 ^ h - 1) &&& (7 - y)) i) := by decide +kernel
theorem txD_mS {d : rT} {y : Nat → Nat} {pa : Nat → Nat → Int32} {s : Nat → Int32} (h : dOK d) (hp : dpa pa y d) (hs : ∀ j, j < 20 → s j = pa 0 j) (h0 : d 6 0 ≤ 3) (h1 : d 6 1 ≤ 4) (hy : y 4 < 8) (hn : y 4 / 2 ^ d 6 0 = 0) : mS s (rset d 6 3 (d 6 3 &&& (7 - y 4))) := by
  obtain ⟨c2, c3, c4, c5, c6, c7, c8⟩ := hp
  refine ⟨fun i hi => ?_, by rw [hs 9 (by decide)]; exact c4, fun k hk => ?_, by rw [hs 18 (by decide)]; exact c6, ?_⟩
  · have hi : i < d 6 0 := hi
    rw [hs _ (by omega), hs _ (by omega), hs _ (by omega)]
    refine ⟨(c2 i hi).1, (c2 i hi).2, (c3 i (by omega)).trans ?_⟩
    show _ = nI (1 - bit (d 6 3 &&& (7 - y 4)) i)
    rw [h.1.1]
    exact bt_ev _ (by omega) _ hy i hi hn
  · have hk : k < d 6 1 := hk
    rw [hs _ (by omega), hs _ (by omega)]
    exact c5 k hk
  · rw [hs 19 (by decide), c7]
    show (0 : Int32) = nI (d 6 6)
    rw [h.1.2]
    rfl
set_option maxRecDepth 100000 in
set_option maxHeartbeats 4000000 in
theorem mX7_text_f (s : Nat → Int32) (la : Nat → Int32) (r : rT) (v : vT) (c : Nat → Nat → Int32) (l : Nat → Int32) (tn : Int32) (p : Nat → Int32) (pa : Nat → Nat → Int32) (m : Nat) (q : rT) (b : Int32) (x : Nat → Nat) (h : Nat → Nat → Int64) (d0 : rT) (hb : ∀ j, v 1 j < 128) (hl : v 4 0 ≤ 160) (hB : dBd d0) (z1 : Int32) (z2 : Option Value) (F P : Nat) (hF : rF p F P) (hE : txE v d0 7 = F ∧ txE v d0 8 = P) : J KX7_text 21 (fun o B => o = some (.int (txA v d0)) ∧ (¬ nI (txE v d0 7) = 0 → (∃ p9 pa9, B = (wM s la r (txV v (txE v d0)) c l tn p9 pa9 m q b x h))) ∧ (nI (txE v d0 7) = 0 → (∃ s9 la9 p9 pa9, B = (wM s9 la9 (txD v d0) (txW v (txE v d0)) c l tn p9 pa9 m q b x h) ∧ rOK (txD v d0) ∧ mS s9 (txD v d0) ∧ mL la9 (txD v d0) ∧ dBd (txD v d0) ∧ ∀ j, 20 ≤ j → s9 j = s j))) 111 [some (.ref 0), some (.int z1), z2] [] (wM s la r v c l tn p pa m q b x h) 0 0 := by
  refine J.aload_n dX7_text_111 rfl rfl ?_
  refine J.iconst (0) dX7_text_112 (by decide) ?_
  rw [show (0 : Int32) = nI 0 from rfl]
  refine J.mp13 dX7_text_113 rfl ?_
  try dsimp only [List.set]
  refine J.aload_n dX7_text_116 rfl rfl ?_
  refine J.aload_n dX7_text_117 rfl rfl ?_
  refine J.mg15 dX7_text_118 rfl ?_
  rw [hF.1]
  refine J.mp14 dX7_text_121 rfl ?_
  try dsimp only [List.set]
  refine J.aload_n dX7_text_124 rfl rfl ?_
  refine J.mg15 dX7_text_125 rfl ?_
  refine J.if_le (tgt := 139) dX7_text_128 (by decide) (fun c128 => absurd c128 (by rw [hF.1]; exact nI_nle hF.2.2.1 (by have := hF.2.2.2; omega))) (fun c128 => ?_)
  refine J.bipush (-10) dX7_text_131 (by decide) ?_
  refine J.aload_n dX7_text_133 rfl rfl ?_
  refine J.mg16 dX7_text_134 rfl ?_
  rw [hF.2.1]
  refine J.isub dX7_text_137 ?_
  have hn : ¬ nI (txE v d0 7) = 0 := by rw [hE.1]; exact nI_ne0 hF.2.2.1 (by have := hF.2.2.2; omega)
  refine J.iret dX7_text_138 rfl rfl (Nat.le_refl _) (Nat.le_refl _) ⟨congrArg (fun z => some (Value.int z)) ?_, fun _ => ⟨p, pa, ?_⟩, fun h => absurd h hn⟩
  · show _ = ansA _ (txE v d0)
    rw [ansA, if_neg hn, hE.2]
  · exact wM_v s la r (vset (vset v 4 0 0) 5 7 F) c l tn p pa m q b x h (txV v (txE v d0)) rfl rfl rfl rfl rfl rfl (fun j => by show (if 2 + j = 0 then 0 else v 4 (2 + j)) = if 2 + j = 0 then 0 else v 4 (2 + j); rfl) hE.1.symm
set_option maxRecDepth 100000 in
set_option maxHeartbeats 4000000 in
theorem mX7_text_c (s : Nat → Int32) (la : Nat → Int32) (r : rT) (v : vT) (c : Nat → Nat → Int32) (l : Nat → Int32) (tn : Int32) (p : Nat → Int32) (pa : Nat → Nat → Int32) (m : Nat) (q : rT) (b : Int32) (x : Nat → Nat) (h : Nat → Nat → Int64) (d0 : rT) (hb : ∀ j, v 1 j < 128) (hl : v 4 0 ≤ 160) (hB : dBd d0) (d : rT) (y : Nat → Nat) (hRA : (rdA (v 1) (v 4 0) 161 0 (yA0 (v 5)) (rclear d0)).2 = (y, d)) (ln : Nat) (hln : txA v d0 = nI ln) (h7 : txE v d0 = y) (hy7 : y 7 = 0) (hz : zOK (v 4 0) y d) (hdr : dr p pa y d) (hd : dOK d) (hn : y 4 / 2 ^ d 6 0 = 0) : ∀ (k9 i : Nat), i + k9 = 20 → ∀ (s1 la1 : Nat → Int32), ((∀ j, j < i → s1 j = pa 0 j) ∧ (∀ j, 20 ≤ j → s1 j = s j) ∧ ∀ j, j < 6 → j < i → la1 j = pa 1 j) → J KX7_text 21 (fun o B => o = some (.int (txA v d0)) ∧ (¬ nI (txE v d0 7) = 0 → (∃ p9 pa9, B = (wM s la r (txV v (txE v d0)) c l tn p9 pa9 m q b x h))) ∧ (nI (txE v d0 7) = 0 → (∃ s9 la9 p9 pa9, B = (wM s9 la9 (txD v d0) (txW v (txE v d0)) c l tn p9 pa9 m q b x h) ∧ rOK (txD v d0) ∧ mS s9 (txD v d0) ∧ mL la9 (txD v d0) ∧ dBd (txD v d0) ∧ ∀ j, 20 ≤ j → s9 j = s j))) 141 [some (.ref 0), some (.int (nI ln)), some (.int (nI i))] [] (wM s1 la1 r (vset (vset v 4 0 0) 5 7 0) c l tn p pa m q b x h) 0 0 := by
  intro k9
  induction k9 with
  | zero =>
    intro i hi
    obtain hiN : i = 20 := by omega
    intro s1 la1 hh
    subst hiN
    refine J.iload_n dX7_text_141 rfl rfl ?_
    refine J.bipush (20) dX7_text_142 (by decide) ?_
    refine J.icmp_ge (tgt := 183) dX7_text_144 (by decide) (fun c144 => ?_) (fun c144 => absurd c144 (fun h => h (by decide)))
    refine J.aload_n dX7_text_183 rfl rfl ?_
    refine J.aload_n dX7_text_184 rfl rfl ?_
    refine J.mg7 dX7_text_185 rfl ?_
    rw [hdr.1.1]
    refine J.mp1 dX7_text_188 rfl ?_
    try dsimp only [List.set]
    refine J.aload_n dX7_text_191 rfl rfl ?_
    refine J.aload_n dX7_text_192 rfl rfl ?_
    refine J.mg8 dX7_text_193 rfl ?_
    rw [hdr.1.2.1]
    refine J.mp2 dX7_text_196 rfl ?_
    try dsimp only [List.set]
    refine J.aload_n dX7_text_199 rfl rfl ?_
    refine J.aload_n dX7_text_200 rfl rfl ?_
    refine J.mg9 dX7_text_201 rfl ?_
    rw [hdr.1.2.2]
    refine J.mp4 dX7_text_204 rfl ?_
    try dsimp only [List.set]
    refine J.aload_n dX7_text_207 rfl rfl ?_
    refine J.iconst (0) dX7_text_208 (by decide) ?_
    rw [show (0 : Int32) = nI 0 from rfl]
    refine J.mp36 dX7_text_209 rfl ?_
    try dsimp only [List.set]
    refine J.aload_n dX7_text_212 rfl rfl ?_
    refine J.mg37 dX7_text_213 rfl ?_
    refine J.iconst (0) dX7_text_216 (by decide) ?_
    refine J.iconst (0) dX7_text_217 (by decide) ?_
    rw [show (0 : Int32) = nI 0 from rfl]
    refine J.ms17 0 (z := 0) dX7_text_218 rfl (by decide) (by decide) ?_
    try dsimp only [List.set]
    refine J.aload_n dX7_text_219 rfl rfl ?_
    refine J.mg37 dX7_text_220 rfl ?_
    refine J.iconst (1) dX7_text_223 (by decide) ?_
    refine J.iconst (0) dX7_text_224 (by decide) ?_
    rw [show (0 : Int32) = nI 0 from rfl]
    refine J.ms17 1 (z := 0) dX7_text_225 rfl (by decide) (by decide) ?_
    try dsimp only [List.set]
    refine J.iload_n dX7_text_226 rfl rfl ?_
    refine J.arrI 17 3 (fun _ => nI 0) rfl (fun j hj => ?_) ?_
    · match j, hj with
      | 0, _ => rfl
      | 1, _ => rfl
    have e9 : nI (txE v d0 7) = 0 := by rw [h7, hy7]; rfl
    have eD : txD v d0 = rset d 6 3 (d 6 3 &&& (7 - y 4)) := by unfold txD; rw [hRA]
    refine J.iret dX7_text_227 rfl rfl (Nat.le_refl _) (Nat.le_refl _) ⟨congrArg (fun z => some (Value.int z)) hln.symm, fun h => absurd e9 h, fun _ => ⟨s1, la1, p, pa, ?_, ?_, ?_, ?_, ?_, hh.2.1⟩⟩
    · refine Eq.trans (wM_r s1 la1 (rset (rset (rset r 6 0 (d 6 0)) 6 1 (d 6 1)) 6 2 (d 6 2)) (fun a => if a = 0 then (fun _ => 0) else (vset (vset (vset (vset (vset v 4 0 0) 5 7 0) 4 1 0) 0 0 0) 0 1 0) a) c l tn p pa m q b x h (txD v d0) (by rw [eD] <;> rfl) (by rw [eD] <;> rfl) (by rw [eD] <;> rfl)) ?_
      exact wM_v s1 la1 (txD v d0) (fun a => if a = 0 then (fun _ => 0) else (vset (vset (vset (vset (vset v 4 0 0) 5 7 0) 4 1 0) 0 0 0) 0 1 0) a) c l tn p pa m q b x h (txW v (txE v d0)) rfl rfl rfl rfl rfl rfl (fun j => by show (if 2 + j = 1 then 0 else if 2 + j = 0 then 0 else v 4 (2 + j)) = if 2 + j = 0 then 0 else if 2 + j = 1 then 0 else v 4 (2 + j); rw [if_neg (by omega), if_neg (by omega), if_neg (by omega), if_neg (by omega)]) (by show 0 = txE v d0 7; rw [h7, hy7])
    · rw [eD]; exact txD_ok hd hz.2.2.2.2.1 hz.2.2.2.2.2.1 hz.2.2.2.2.2.2.1
    · rw [eD]; exact txD_mS hd hdr.2.2.2 hh.1 hz.2.2.2.2.1 hz.2.2.2.2.2.1 hz.2.1 hn
    · rw [eD]
      intro j hj
      have hj : j < d 6 2 := hj
      have h3 := hz.2.2.2.2.2.2.1
      rw [hh.2.2 _ (by omega) (by omega), hh.2.2 _ (by omega) (by omega)]
      exact hdr.2.2.2.2.2.2.2.2.2 j hj
    · rw [eD]; exact hd.2.2
  | succ k9 ih =>
    intro i hi
    have hiN : i < 20 := by omega
    intro s1 la1 hh
    refine J.iload_n dX7_text_141 rfl rfl ?_
    refine J.bipush (20) dX7_text_142 (by decide) ?_
    refine J.icmp_ge (tgt := 183) dX7_text_144 (by decide) (fun c144 => absurd c144 (nI_ge (b := 20) (by omega) (by omega))) (fun c144 => ?_)
    refine J.aload_n dX7_text_147 rfl rfl ?_
    refine J.mg0 dX7_text_148 rfl ?_
    refine J.iload_n dX7_text_151 rfl rfl ?_
    refine J.aload_n dX7_text_152 rfl rfl ?_
    refine J.mg5 dX7_text_153 rfl ?_
    refine J.iload_n dX7_text_156 rfl rfl ?_
    refine J.ml3 (i) dX7_text_157 rfl (by omega) ?_
    refine J.ms1 (i) dX7_text_158 rfl (by omega) ?_
    try dsimp only [List.set]
    refine J.aload_n dX7_text_159 rfl rfl ?_
    refine J.mg3 dX7_text_160 rfl ?_
    refine J.iload_n dX7_text_163 rfl rfl ?_
    refine J.bipush (6) dX7_text_164 (by decide) ?_
    refine J.irem dX7_text_166 (by decide) ?_
    rw [show nI i - nI i / 6 * 6 = nI (i % 6) from pk_rem (d := 6) (by omega) (by decide) (by decide)]
    refine J.aload_n dX7_text_167 rfl rfl ?_
    refine J.mg6 dX7_text_168 rfl ?_
    refine J.iload_n dX7_text_171 rfl rfl ?_
    refine J.bipush (6) dX7_text_172 (by decide) ?_
    refine J.irem dX7_text_174 (by decide) ?_
    rw [show nI i - nI i / 6 * 6 = nI (i % 6) from pk_rem (d := 6) (by omega) (by decide) (by decide)]
    refine J.ml4 (i % 6) dX7_text_175 rfl (by omega) ?_
    refine J.ms2 (i % 6) dX7_text_176 rfl (by omega) ?_
    try dsimp only [List.set]
    refine J.iinc (1) dX7_text_177 (by decide) rfl (by decide) rfl ?_
    try dsimp only [List.set]
    refine J.goto (tgt := 141) dX7_text_180 (by decide) ?_
    refine J.at (ih (i + 1) (by omega) (upd s1 i (pa 0 i)) (upd la1 (i % 6) (pa 1 (i % 6))) ⟨fun j hj => ?_, fun j hj => ?_, fun j h6 hj => ?_⟩) (by rw [← nI_1 i] <;> rfl) rfl rfl
    · by_cases e : j = i
      · subst e; exact pk_us
      · exact (pk_un e).trans (hh.1 j (by omega))
    · exact (pk_un (by omega)).trans (hh.2.1 j hj)
    · by_cases e : j = i % 6
      · subst e; exact pk_us
      · exact (pk_un e).trans (hh.2.2 j h6 (by omega))
set_option maxRecDepth 100000 in
set_option maxHeartbeats 4000000 in
theorem mX7_text_e (s : Nat → Int32) (la : Nat → Int32) (r : rT) (v : vT) (c : Nat → Nat → Int32) (l : Nat → Int32) (tn : Int32) (p : Nat → Int32) (pa : Nat → Nat → Int32) (m : Nat) (q : rT) (b : Int32) (x : Nat → Nat) (h : Nat → Nat → Int64) (d0 : rT) (hb : ∀ j, v 1 j < 128) (hl : v 4 0 ≤ 160) (hB : dBd d0) (d : rT) (y : Nat → Nat) (ln : Nat) (hRA : (rdA (v 1) (v 4 0) 161 0 (yA0 (v 5)) (rclear d0)).2 = (y, d)) (hln : (rdA (v 1) (v 4 0) 161 0 (yA0 (v 5)) (rclear d0)).1 = ln) (hy7 : y 7 = 0) (hz : zOK (v 4 0) y d) (hdr : dr p pa y d) (hd : dOK d) (h5 : p 5 = 0) (h8 : p 8 = nI (v 4 0)) (z2 : Option Value) : J KX7_text 21 (fun o B => o = some (.int (txA v d0)) ∧ (¬ nI (txE v d0 7) = 0 → (∃ p9 pa9, B = (wM s la r (txV v (txE v d0)) c l tn p9 pa9 m q b x h))) ∧ (nI (txE v d0 7) = 0 → (∃ s9 la9 p9 pa9, B = (wM s9 la9 (txD v d0) (txW v (txE v d0)) c l tn p9 pa9 m q b x h) ∧ rOK (txD v d0) ∧ mS s9 (txD v d0) ∧ mL la9 (txD v d0) ∧ dBd (txD v d0) ∧ ∀ j, 20 ≤ j → s9 j = s j))) 86 [some (.ref 0), some (.int (nI ln)), z2] [] (wM s la r v c l tn p pa m q b x h) 0 0 := by
  by_cases hn : y 4 / 2 ^ d 6 0 = 0
  · have eE : txE v d0 = y := by unfold txE yE; rw [hRA]; exact if_neg (fun h => h.2 hn)
    refine J.aload_n dX7_text_86 rfl rfl ?_
    refine J.mg15 dX7_text_87 rfl ?_
    refine J.if_ne (tgt := 111) dX7_text_90 (by decide) (fun c90 => absurd c90 (fun h => h h5)) (fun c90 => ?_)
    refine J.aload_n dX7_text_93 rfl rfl ?_
    refine J.mg11 dX7_text_94 rfl ?_
    rw [hdr.2.2.1]
    refine J.aload_n dX7_text_97 rfl rfl ?_
    refine J.mg7 dX7_text_98 rfl ?_
    rw [hdr.1.1]
    refine J.ishr dX7_text_101 ?_
    rw [shr_eval _ hz.2.1 _ (show d 6 0 < 4 by have := hz.2.2.2.2.1; omega)]
    refine J.if_eq (tgt := 111) dX7_text_102 (by decide) (fun c102 => ?_) (fun c102 => absurd c102 (fun h => h (by rw [hn] <;> rfl)))
    refine J.aload_n dX7_text_111 rfl rfl ?_
    refine J.iconst (0) dX7_text_112 (by decide) ?_
    rw [show (0 : Int32) = nI 0 from rfl]
    refine J.mp13 dX7_text_113 rfl ?_
    try dsimp only [List.set]
    refine J.aload_n dX7_text_116 rfl rfl ?_
    refine J.aload_n dX7_text_117 rfl rfl ?_
    refine J.mg15 dX7_text_118 rfl ?_
    rw [h5]
    rw [show (0 : Int32) = nI 0 from rfl]
    refine J.mp14 dX7_text_121 rfl ?_
    try dsimp only [List.set]
    refine J.aload_n dX7_text_124 rfl rfl ?_
    refine J.mg15 dX7_text_125 rfl ?_
    refine J.if_le (tgt := 139) dX7_text_128 (by decide) (fun c128 => ?_) (fun c128 => absurd c128 (fun h => h (by rw [h5]; decide)))
    refine J.iconst (0) dX7_text_139 (by decide) ?_
    refine J.istore_n dX7_text_140 rfl (by decide) rfl ?_
    try dsimp only [List.set]
    exact J.at (mX7_text_c s la r v c l tn p pa m q b x h d0 hb hl hB d y hRA ln (by show ansA _ (txE v d0) = _; rw [eE, ansA, if_pos (by rw [hy7] <;> rfl), hln]) eE hy7 hz hdr hd hn 20 0 (by omega) s la ⟨fun j hj => absurd hj (Nat.not_lt_zero j), fun _ _ => rfl, fun j _ hj => absurd hj (Nat.not_lt_zero j)⟩) rfl rfl rfl
  · skip
    refine J.aload_n dX7_text_86 rfl rfl ?_
    refine J.mg15 dX7_text_87 rfl ?_
    refine J.if_ne (tgt := 111) dX7_text_90 (by decide) (fun c90 => absurd c90 (fun h => h h5)) (fun c90 => ?_)
    refine J.aload_n dX7_text_93 rfl rfl ?_
    refine J.mg11 dX7_text_94 rfl ?_
    rw [hdr.2.2.1]
    refine J.aload_n dX7_text_97 rfl rfl ?_
    refine J.mg7 dX7_text_98 rfl ?_
    rw [hdr.1.1]
    refine J.ishr dX7_text_101 ?_
    rw [shr_eval _ hz.2.1 _ (show d 6 0 < 4 by have := hz.2.2.2.2.1; omega)]
    refine J.if_eq (tgt := 111) dX7_text_102 (by decide) (fun c102 => absurd c102 (fun h => hn ((nI_eqi (b := 0) (Nat.lt_of_le_of_lt (Nat.div_le_self _ _) (by have := hz.2.1; omega)) (by decide)).mp h))) (fun c102 => ?_)
    refine J.aload_n dX7_text_105 rfl rfl ?_
    refine J.bipush (6) dX7_text_106 (by decide) ?_
    refine J.cvM (as := [.int _]) s la r v c l tn p pa m q b x h okX7_fails jcX7_112 (mX7_fails s la r v c l tn p pa m q b x h 6 h5) dX7_text_108 rfl rfl rfl rfl (fun r9 B9 hq9 => ?_)
    obtain ⟨rfl, rfl⟩ := hq9
    refine ⟨_, _, _, _, _, _, _, _, _, _, _, _, _, _, rfl, ?_⟩
    show J _ _ _ _ _ [] (wM s la r v c l tn (pset (pset p 5 (nI 6)) 6 (p 8)) pa m q b x h) _ _
    exact mX7_text_f s la r v c l tn (pset (pset p 5 (nI 6)) 6 (p 8)) pa m q b x h d0 hb hl hB (nI ln) z2 6 (v 4 0) ⟨rfl, h8, by decide, by decide⟩ (by rw [show txE v d0 = yF y 6 (v 4 0) from by unfold txE yE; rw [hRA]; exact if_pos ⟨by show nI (y 7) = 0; rw [hy7]; rfl, hn⟩]; exact ⟨rfl, rfl⟩)
theorem ntf_end' {b : Nat → Nat} (hb : ∀ j, b j < 128) {len P : Nat} (hP : P ≤ len) (h : nts b len P = 0) : ntf b len P = len := by
  have h1 := (ntf_le (b := b) hP).2
  apply Decidable.not_not.mp
  intro h2
  have h3 : ntf b len P < len := by omega
  have h9 := hb (ntf b len P)
  rw [nts, srt, bya, if_pos h3, sof, if_neg (nI_pos (by omega))] at h
  split at h
  · exact absurd h (by decide)
  · split at h
    · exact absurd h (by decide)
    · split at h <;> exact absurd h (by decide)
set_option maxRecDepth 100000 in
set_option maxHeartbeats 4000000 in
theorem mX7_text_l (s : Nat → Int32) (la : Nat → Int32) (r : rT) (v : vT) (c : Nat → Nat → Int32) (l : Nat → Int32) (tn : Int32) (m : Nat) (q : rT) (b : Int32) (x : Nat → Nat) (h : Nat → Nat → Int64) (d0 : rT) (hb : ∀ j, v 1 j < 128) (hl : v 4 0 ≤ 160) (hB : dBd d0) : ∀ (k : Nat) (y : Nat → Nat) (d : rT) (ln : Nat) (p : Nat → Int32) (pa : Nat → Nat → Int32), (rA v p (y 2) ∧ dr p pa y d ∧ dOK d ∧ y 7 = 0 ∧ zOK (v 4 0) y d ∧ v 4 0 + 1 ≤ y 2 + k ∧ rdA (v 1) (v 4 0) k ln y d = (rdA (v 1) (v 4 0) 161 0 (yA0 (v 5)) (rclear d0))) → ∀ z2 : Option Value, J KX7_text 21 (fun o B => o = some (.int (txA v d0)) ∧ (¬ nI (txE v d0 7) = 0 → (∃ p9 pa9, B = (wM s la r (txV v (txE v d0)) c l tn p9 pa9 m q b x h))) ∧ (nI (txE v d0 7) = 0 → (∃ s9 la9 p9 pa9, B = (wM s9 la9 (txD v d0) (txW v (txE v d0)) c l tn p9 pa9 m q b x h) ∧ rOK (txD v d0) ∧ mS s9 (txD v d0) ∧ mL la9 (txD v d0) ∧ dBd (txD v d0) ∧ ∀ j, 20 ≤ j → s9 j = s j))) 62 [some (.ref 0), some (.int (nI ln)), z2] [] (wM s la r v c l tn p pa m q b x h) 0 0 := by
  intro k
  induction k with
  | zero =>
    intro y d ln p pa hh z2
    exact absurd hh.2.2.2.2.2.1 (by have := hh.2.2.2.2.1.1; omega)
  | succ k ih =>
    intro y d ln p pa hh z2
    by_cases hto : ntoB (v 1) (v 4 0) (y 2) = true
    · have hok := hh.1.ok hto
      by_cases hs : (yN (v 1) (v 4 0) y) 0 = 0
      · have eR : (rdA (v 1) (v 4 0) 161 0 (yA0 (v 5)) (rclear d0)) = (ln, ((yN (v 1) (v 4 0) y), d)) := by rw [← hh.2.2.2.2.2.2, rdA, if_pos hto, if_pos hs]
        refine J.aload_n dX7_text_62 rfl rfl ?_
        refine J.mg15 dX7_text_63 rfl ?_
        refine J.if_ne (tgt := 86) dX7_text_66 (by decide) (fun c66 => absurd c66 (fun h => h hok.1)) (fun c66 => ?_)
        refine J.aload_n dX7_text_69 rfl rfl ?_
        refine J.mg19 dX7_text_70 rfl ?_
        rw [hok.2.2.2.1]
        refine J.if_eq (tgt := 86) dX7_text_73 (by decide) (fun c73 => ?_) (fun c73 => absurd c73 (fun h => h (congrArg nI hs)))
        exact mX7_text_e s la r v c l tn p pa m q b x h d0 hb hl hB d (yN (v 1) (v 4 0) y) ln (by rw [eR]) (by rw [eR]) (by rw [yN_hi _ _ _ hto 7 (by decide)]; exact hh.2.2.2.1) hh.2.2.2.2.1.N.z (hh.2.1.y (fun i h1 h2 => yN_hi _ _ _ hto i (by omega))) hh.2.2.1 hok.1 (by rw [hok.2.2.1]; exact congrArg nI (ntf_end' hb hh.2.2.2.2.1.1 hs)) z2
      · skip
        refine J.aload_n dX7_text_62 rfl rfl ?_
        refine J.mg15 dX7_text_63 rfl ?_
        refine J.if_ne (tgt := 86) dX7_text_66 (by decide) (fun c66 => absurd c66 (fun h => h hok.1)) (fun c66 => ?_)
        refine J.aload_n dX7_text_69 rfl rfl ?_
        refine J.mg19 dX7_text_70 rfl ?_
        rw [hok.2.2.2.1]
        refine J.if_eq (tgt := 86) dX7_text_73 (by decide) (fun c73 => absurd c73 (fun h => hs ((nI_eqi (b := 0) (by have := yN_0 (v 1) (v 4 0) y; omega) (by decide)).mp h))) (fun c73 => ?_)
        refine J.aload_n dX7_text_76 rfl rfl ?_
        refine J.cvM (as := []) s la r v c l tn p pa m q b x h okX7_readLine jcX7_153 (mX7_readLine s la r v c l tn p pa m q b x h (yN (v 1) (v 4 0) y) d hb hl hok.1 hok.2 hh.2.2.2.2.1.N (hh.2.1.y (fun i h1 h2 => yN_hi _ _ _ hto i (by omega))) hh.2.2.1 (by rw [yN_hi _ _ _ hto 7 (by decide)]; exact hh.2.2.2.1)) dX7_text_77 rfl rfl rfl rfl (fun r9 B9 hq9 => ?_)
        obtain ⟨rfl, p9, pa9, rfl, hQ9⟩ := hq9
        refine ⟨_, _, _, _, _, _, _, _, _, _, _, _, _, _, rfl, ?_⟩
        show J _ _ _ _ _ [] (wM s la r v c l tn p9 pa9 m q b x h) _ _
        refine J.iinc (1) dX7_text_80 (by decide) rfl (by decide) rfl ?_
        try dsimp only [List.set]
        refine J.goto (tgt := 62) dX7_text_83 (by decide) ?_
        by_cases hl9 : (rdLi (v 1) (v 4 0) (yN (v 1) (v 4 0) y) d).1 = true
        · have hT9 := hQ9.1 hl9
          have eR : (rdA (v 1) (v 4 0) 161 0 (yA0 (v 5)) (rclear d0)) = rdA (v 1) (v 4 0) k (ln + 1) (rdLi (v 1) (v 4 0) (yN (v 1) (v 4 0) y) d).2.1 (rdLi (v 1) (v 4 0) (yN (v 1) (v 4 0) y) d).2.2 := by rw [← hh.2.2.2.2.2.2, rdA, if_pos hto, if_neg hs, if_pos hl9]
          refine J.at (ih (rdLi (v 1) (v 4 0) (yN (v 1) (v 4 0) y) d).2.1 (rdLi (v 1) (v 4 0) (yN (v 1) (v 4 0) y) d).2.2 (ln + 1) p9 pa9 ⟨hT9.1, hT9.2.1, hT9.2.2.1, hT9.2.2.2.1, hT9.2.2.2.2.2, ?_, eR.symm⟩ z2) (by rw [← nI_1 ln] <;> rfl) rfl rfl
          have h1 := hT9.2.2.2.2.1
          have h2 := hh.2.2.2.2.2.1
          have h3 := (ntf_le (b := v 1) hh.2.2.2.2.1.1).1
          have h4 := (yN_2 (b := v 1) hh.2.2.2.2.1.1).1
          have h5 : (yN (v 1) (v 4 0) y) 1 = ntf (v 1) (v 4 0) (y 2) := rfl
          omega
        · have hF9 := hQ9.2 hl9
          have eR : (rdA (v 1) (v 4 0) 161 0 (yA0 (v 5)) (rclear d0)) = (ln, (rdLi (v 1) (v 4 0) (yN (v 1) (v 4 0) y) d).2) := by rw [← hh.2.2.2.2.2.2, rdA, if_pos hto, if_neg hs, if_neg hl9]
          have h59 : ¬ p9 5 = 0 := by rw [hF9.1]; exact nI_ne0 hF9.2.2.1 (by have := hF9.2.2.2; omega)
          have h7n : ¬ nI ((rdLi (v 1) (v 4 0) (yN (v 1) (v 4 0) y) d).2.1 7) = 0 := nI_ne0 hF9.2.2.1 (by have := hF9.2.2.2; omega)
          refine J.aload_n dX7_text_62 rfl rfl ?_
          refine J.mg15 dX7_text_63 rfl ?_
          refine J.if_ne (tgt := 86) dX7_text_66 (by decide) (fun c66 => ?_) (fun c66 => absurd c66 h59)
          refine J.aload_n dX7_text_86 rfl rfl ?_
          refine J.mg15 dX7_text_87 rfl ?_
          refine J.if_ne (tgt := 111) dX7_text_90 (by decide) (fun c90 => ?_) (fun c90 => absurd c90 h59)
          exact mX7_text_f s la r v c l tn p9 pa9 m q b x h d0 hb hl hB _ z2 _ _ hF9 (by rw [show txE v d0 = (rdLi (v 1) (v 4 0) (yN (v 1) (v 4 0) y) d).2.1 from by unfold txE yE; rw [eR]; exact if_neg (fun h => h7n h.1)]; exact ⟨rfl, rfl⟩)
    · have eR : (rdA (v 1) (v 4 0) 161 0 (yA0 (v 5)) (rclear d0)) = (ln, ((yN (v 1) (v 4 0) y), d)) := by rw [← hh.2.2.2.2.2.2, rdA, if_neg hto]
      refine J.aload_n dX7_text_62 rfl rfl ?_
      refine J.mg15 dX7_text_63 rfl ?_
      refine J.if_ne (tgt := 86) dX7_text_66 (by decide) (fun c66 => ?_) (fun c66 => absurd c66 (by rw [(hh.1.no hto).1]; decide))
      refine J.aload_n dX7_text_86 rfl rfl ?_
      refine J.mg15 dX7_text_87 rfl ?_
      refine J.if_ne (tgt := 111) dX7_text_90 (by decide) (fun c90 => ?_) (fun c90 => absurd c90 (by rw [(hh.1.no hto).1]; decide))
      exact mX7_text_f s la r v c l tn p pa m q b x h d0 hb hl hB (nI ln) z2 1 (ntf (v 1) (v 4 0) (y 2)) (hh.1.no hto) (by rw [show txE v d0 = (yN (v 1) (v 4 0) y) from by unfold txE yE; rw [eR]; exact if_neg (fun h => absurd h.1 (by show ¬ nI ((yN (v 1) (v 4 0) y) 7) = 0; rw [show (yN (v 1) (v 4 0) y) 7 = 1 from if_neg hto]; decide))]; exact ⟨if_neg hto, if_neg hto⟩)
theorem dr_0 {p p9 : Nat → Int32} {pa : Nat → Nat → Int32} {y0 : Nat → Nat} {d0 : rT} (hlo : low5 (pset (pset (pset (pset (pset (pset (pset p 5 0) 7 0) 0 0) 1 0) 2 0) 3 0) 4 0) p9) (hp : ∀ j, j < 20 → pa 0 j = 0) : dr p9 pa (yA0 y0) (rclear d0) := by
  refine ⟨⟨hlo 0 (by decide), hlo 1 (by decide), hlo 2 (by decide)⟩, ⟨0, by decide, hlo 3 (by decide), show bit 0 3 = 0 by decide, show bit 0 4 = 0 by decide⟩, hlo 4 (by decide), fun i hi => absurd hi (Nat.not_lt_zero i), fun i hi => ?_, ?_, fun i hi => absurd hi (Nat.not_lt_zero i), ?_, hp 19 (by decide), fun i hi => absurd hi (Nat.not_lt_zero i)⟩
  · rw [hp _ (by omega)]
    show (0 : Int32) = nI (bit 0 i)
    rw [bit, Nat.zero_div]
    rfl
  · rw [hp 9 (by decide)]; show (0 : Int32) = nI 3 - 3; decide
  · rw [hp 18 (by decide)]; show (0 : Int32) = nI 9 - 9; decide
set_option maxRecDepth 100000 in
set_option maxHeartbeats 4000000 in
theorem mX7_text_z (s : Nat → Int32) (la : Nat → Int32) (r : rT) (v : vT) (c : Nat → Nat → Int32) (l : Nat → Int32) (tn : Int32) (p : Nat → Int32) (m : Nat) (q : rT) (b : Int32) (x : Nat → Nat) (h : Nat → Nat → Int64) (d0 : rT) (hb : ∀ j, v 1 j < 128) (hl : v 4 0 ≤ 160) (hB : dBd d0) : ∀ (k9 i : Nat), i + k9 = 20 → ∀ (pa : Nat → Nat → Int32), (∀ j, j < i → pa 0 j = 0) → J KX7_text 21 (fun o B => o = some (.int (txA v d0)) ∧ (¬ nI (txE v d0 7) = 0 → (∃ p9 pa9, B = (wM s la r (txV v (txE v d0)) c l tn p9 pa9 m q b x h))) ∧ (nI (txE v d0 7) = 0 → (∃ s9 la9 p9 pa9, B = (wM s9 la9 (txD v d0) (txW v (txE v d0)) c l tn p9 pa9 m q b x h) ∧ rOK (txD v d0) ∧ mS s9 (txD v d0) ∧ mL la9 (txD v d0) ∧ dBd (txD v d0) ∧ ∀ j, 20 ≤ j → s9 j = s j))) 39 [some (.ref 0), some (.int 0), some (.int (nI i))] [] (wM s la r v c l tn (pset (pset (pset (pset (pset (pset (pset p 5 0) 7 0) 0 0) 1 0) 2 0) 3 0) 4 0) pa m q b x h) 0 0 := by
  intro k9
  induction k9 with
  | zero =>
    intro i hi
    obtain hiN : i = 20 := by omega
    intro pa hh
    subst hiN
    refine J.iload_n dX7_text_39 rfl rfl ?_
    refine J.bipush (20) dX7_text_40 (by decide) ?_
    refine J.icmp_ge (tgt := 58) dX7_text_42 (by decide) (fun c42 => ?_) (fun c42 => absurd c42 (fun h => h (by decide)))
    refine J.aload_n dX7_text_58 rfl rfl ?_
    refine J.cvM (as := []) s la r v c l tn (pset (pset (pset (pset (pset (pset (pset p 5 0) 7 0) 0 0) 1 0) 2 0) 3 0) 4 0) pa m q b x h okX7_step jcX7_116 (mX7_step s la r v c l tn (pset (pset (pset (pset (pset (pset (pset p 5 0) 7 0) 0 0) 1 0) 2 0) 3 0) 4 0) pa m q b x h hb hl 0 (Nat.zero_le _) rfl rfl) dX7_text_59 rfl rfl rfl rfl (fun r9 B9 hq9 => ?_)
    obtain ⟨rfl, p9, rfl, hlo9, hA9⟩ := hq9
    refine ⟨_, _, _, _, _, _, _, _, _, _, _, _, _, _, rfl, ?_⟩
    show J _ _ _ _ _ [] (wM s la r v c l tn p9 pa m q b x h) _ _
    exact mX7_text_l s la r v c l tn m q b x h d0 hb hl hB 161 (yA0 (v 5)) (rclear d0) 0 p9 pa ⟨hA9, dr_0 hlo9 hh, dOK_cl hB, rfl, ⟨Nat.zero_le _, show 0 < 8 by decide, show 0 ≤ 1 by decide, show 0 ≤ 1 by decide, show 0 ≤ 3 by decide, show 0 ≤ 4 by decide, show 0 ≤ 3 by decide, show 0 < 8 by decide⟩, by show v 4 0 + 1 ≤ 0 + 161; omega, rfl⟩ _
  | succ k9 ih =>
    intro i hi
    have hiN : i < 20 := by omega
    intro pa hh
    refine J.iload_n dX7_text_39 rfl rfl ?_
    refine J.bipush (20) dX7_text_40 (by decide) ?_
    refine J.icmp_ge (tgt := 58) dX7_text_42 (by decide) (fun c42 => absurd c42 (nI_ge (b := 20) (by omega) (by omega))) (fun c42 => ?_)
    refine J.aload_n dX7_text_45 rfl rfl ?_
    refine J.mg5 dX7_text_46 rfl ?_
    refine J.iload_n dX7_text_49 rfl rfl ?_
    refine J.iconst (0) dX7_text_50 (by decide) ?_
    refine J.ms3 (i) dX7_text_51 rfl (by omega) ?_
    try dsimp only [List.set]
    refine J.iinc (1) dX7_text_52 (by decide) rfl (by decide) rfl ?_
    try dsimp only [List.set]
    refine J.goto (tgt := 39) dX7_text_55 (by decide) ?_
    refine J.at (ih (i + 1) (by omega) (aset pa 0 i 0) (fun j hj => ?_)) (by rw [← nI_1 i] <;> rfl) rfl rfl
    by_cases e : j = i
    · subst e; exact aset_s _ _ _ _
    · exact (aset_n _ e).trans (hh j (by omega))
set_option maxRecDepth 100000 in
set_option maxHeartbeats 4000000 in
theorem mX7_text (s : Nat → Int32) (la : Nat → Int32) (r : rT) (v : vT) (c : Nat → Nat → Int32) (l : Nat → Int32) (tn : Int32) (p : Nat → Int32) (pa : Nat → Nat → Int32) (m : Nat) (q : rT) (b : Int32) (x : Nat → Nat) (h : Nat → Nat → Int64) (d0 : rT) (hb : ∀ j, v 1 j < 128) (hl : v 4 0 ≤ 160) (hB : dBd d0) : J KX7_text 21 (fun o B => o = some (.int (txA v d0)) ∧ (¬ nI (txE v d0 7) = 0 → (∃ p9 pa9, B = (wM s la r (txV v (txE v d0)) c l tn p9 pa9 m q b x h))) ∧ (nI (txE v d0 7) = 0 → (∃ s9 la9 p9 pa9, B = (wM s9 la9 (txD v d0) (txW v (txE v d0)) c l tn p9 pa9 m q b x h) ∧ rOK (txD v d0) ∧ mS s9 (txD v d0) ∧ mL la9 (txD v d0) ∧ dBd (txD v d0) ∧ ∀ j, 20 ≤ j → s9 j = s j))) 0 [some (.ref 0), none, none] [] (wM s la r v c l tn p pa m q b x h) 0 0 := by
  refine J.aload_n dX7_text_0 rfl rfl ?_
  refine J.iconst (0) dX7_text_1 (by decide) ?_
  refine J.mp15 dX7_text_2 rfl ?_
  try dsimp only [List.set]
  refine J.aload_n dX7_text_5 rfl rfl ?_
  refine J.iconst (0) dX7_text_6 (by decide) ?_
  refine J.mp17 dX7_text_7 rfl ?_
  try dsimp only [List.set]
  refine J.aload_n dX7_text_10 rfl rfl ?_
  refine J.iconst (0) dX7_text_11 (by decide) ?_
  refine J.mp7 dX7_text_12 rfl ?_
  try dsimp only [List.set]
  refine J.aload_n dX7_text_15 rfl rfl ?_
  refine J.iconst (0) dX7_text_16 (by decide) ?_
  refine J.mp8 dX7_text_17 rfl ?_
  try dsimp only [List.set]
  refine J.aload_n dX7_text_20 rfl rfl ?_
  refine J.iconst (0) dX7_text_21 (by decide) ?_
  refine J.mp9 dX7_text_22 rfl ?_
  try dsimp only [List.set]
  refine J.aload_n dX7_text_25 rfl rfl ?_
  refine J.iconst (0) dX7_text_26 (by decide) ?_
  refine J.mp10 dX7_text_27 rfl ?_
  try dsimp only [List.set]
  refine J.aload_n dX7_text_30 rfl rfl ?_
  refine J.iconst (0) dX7_text_31 (by decide) ?_
  refine J.mp11 dX7_text_32 rfl ?_
  try dsimp only [List.set]
  refine J.iconst (0) dX7_text_35 (by decide) ?_
  refine J.istore_n dX7_text_36 rfl (by decide) rfl ?_
  try dsimp only [List.set]
  refine J.iconst (0) dX7_text_37 (by decide) ?_
  refine J.istore_n dX7_text_38 rfl (by decide) rfl ?_
  try dsimp only [List.set]
  exact J.at (mX7_text_z s la r v c l tn p m q b x h d0 hb hl hB 20 0 (by omega) pa (fun j hj => absurd hj (Nat.not_lt_zero j))) rfl rfl rfl
