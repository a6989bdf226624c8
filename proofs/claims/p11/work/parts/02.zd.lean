theorem goodIn_s {big : List Cond} (ws : List Cond) (ps : List (Nat × Nat)) (hp : ws = ps.flatMap (fun q => (big.drop q.1).take q.2)) (h : ws.all goodWord = true) : GoodIn big ws := by
  intro w hw
  have h1 := List.all_eq_true.mp h w hw
  rw [hp] at hw
  obtain ⟨q, -, hq⟩ := List.mem_flatMap.mp hw
  exact ⟨List.mem_of_mem_drop (List.mem_of_mem_take hq), good_of_word h1⟩
section ZD
/-- the bytes from a place on, as numbers -/
def zrd (code : ByteArray) (pc n : Nat) : List Nat := ((code.data.toList.drop pc).take n).map UInt8.toNat
theorem zrd_at {code : ByteArray} {pc n : Nat} {l : List Nat} (h : zrd code pc n = l) (k b : Nat) (hk : l[k]? = some b) : ∃ h : pc + k < code.size, (code[pc + k]'h).toNat = b := by
  subst h
  unfold zrd at hk
  rw [List.getElem?_map, List.getElem?_take] at hk
  by_cases hn : k < n
  · rw [if_pos hn, List.getElem?_drop] at hk
    cases hx : code.data.toList[pc + k]? with
    | none => rw [hx] at hk; cases hk
    | some x =>
      rw [hx] at hk
      have hk : x.toNat = b := Option.some.inj hk
      obtain ⟨h1, h2⟩ := List.getElem?_eq_some_iff.mp hx
      have h3 : pc + k < code.size := by simpa using h1
      exact ⟨h3, (congrArg UInt8.toNat (show code[pc + k]'h3 = x from h2)).trans hk⟩
  · rw [if_neg hn] at hk; cases hk
theorem zu1 {code : ByteArray} {p b : Nat} (h : ∃ h : p < code.size, (code[p]'h).toNat = b) : (Reader.u1 : Decoder Nat) code p = .ok (b, p + 1) := by
  obtain ⟨h1, h2⟩ := h
  show (do if h : p < code.size then do set (p + 1); Pure.pure code[p].toNat else MonadExcept.throw (HasTruncated.truncated p) : Decoder Nat) code p = _
  rw [dif_pos h1, ← h2]; rfl
theorem zbind {α β : Type} {r : Decoder α} {f : α → Decoder β} {code : ByteArray} {p p1 : Nat} {a : α} (h : r code p = .ok (a, p1)) : (r >>= f) code p = f a code p1 := by
  have e : (r >>= f) code p = (match r code p with | .error e => Except.error e | .ok (a, s) => f a code s) := by
    show (do let (a, s) ← r code p; f a code s : Except DecodeError (β × Nat)) = _
    cases r code p <;> rfl
  rw [e, h]
theorem zmap {α β : Type} {r : Decoder α} {g : α → β} {code : ByteArray} {p p1 : Nat} {a : α} (h : r code p = .ok (a, p1)) : (g <$> r) code p = .ok (g a, p1) := by
  show (do let (a, s) ← r code p; .ok (g a, s) : Except DecodeError (β × Nat)) = _
  rw [h]; rfl
theorem zu2 {code : ByteArray} {p b1 b2 : Nat} (h1 : ∃ h : p < code.size, (code[p]'h).toNat = b1) (h2 : ∃ h : p + 1 < code.size, (code[p + 1]'h).toNat = b2) : (Reader.u2 : Decoder Nat) code p = .ok (b1 * 256 + b2, p + 2) := by
  show (Reader.u1 >>= fun hi => Reader.u1 >>= fun lo => pure (hi * 256 + lo) : Decoder Nat) code p = _
  rw [zbind (zu1 h1), zbind (zu1 h2)]; rfl
def zK (b : Nat) (X : Decoder Instr) : Prop := ∀ pc : Nat, ∃ K : Nat → Decoder Instr, Decoder.instr pc = (Reader.u1 >>= K) ∧ K b = X
theorem zdec {code : ByteArray} {pc b : Nat} {i : Instr} {X : Decoder Instr} (n : Nat) (hK : zK b X) (hb : ∃ h : pc < code.size, (code[pc]'h).toNat = b) (hX : X code (pc + 1) = .ok (i, pc + 1 + n)) : decode code pc = .ok (i, n + 1) := by
  obtain ⟨K, h1, h2⟩ := hK pc
  have e : Decoder.instr pc code pc = .ok (i, pc + 1 + n) := by rw [h1, zbind (zu1 hb), h2]; exact hX
  have e2 : decode code pc = (match Decoder.instr pc code pc with | .error e => Except.error e | .ok (a, s) => .ok (a, s - pc)) := by
    show (do let (a, s) ← Decoder.instr pc code pc; .ok (a, s - pc) : Except DecodeError (Instr × Nat)) = _
    cases Decoder.instr pc code pc <;> rfl
  rw [e2, e]
  show Except.ok (i, pc + 1 + n - pc) = _
  rw [show pc + 1 + n - pc = n + 1 from by omega]
theorem zy_0 {code : ByteArray} {pc b : Nat} {i : Instr} (hK : zK b (pure i)) (h : zrd code pc 1 = [b]) : decode code pc = .ok (i, 1) :=
  zdec 0 hK (zrd_at h 0 b rfl) rfl
theorem zy_u1 {code : ByteArray} {pc b b1 : Nat} {f : Nat → Instr} (hK : zK b (do pure (f (← Reader.u1)))) (h : zrd code pc 2 = [b, b1]) : decode code pc = .ok (f b1, 2) :=
  zdec 1 hK (zrd_at h 0 b rfl) (by rw [zbind (zu1 (zrd_at h 1 b1 rfl))]; rfl)
theorem zy_s1 {code : ByteArray} {pc b b1 : Nat} {v : Int} {f : Int → Instr} (hK : zK b (do pure (f (← Reader.s1)))) (h : zrd code pc 2 = [b, b1]) (hv : Reader.signed 8 b1 = v) : decode code pc = .ok (f v, 2) := by
  subst hv
  have e : (Reader.s1 : Decoder Int) code (pc + 1) = .ok (Reader.signed 8 b1, pc + 1 + 1) := zmap (zu1 (zrd_at h 1 b1 rfl))
  exact zdec 1 hK (zrd_at h 0 b rfl) (by rw [zbind e]; rfl)
theorem zy_u2 {code : ByteArray} {pc b b1 b2 : Nat} {f : Nat → Instr} (hK : zK b (do pure (f (← Reader.u2)))) (h : zrd code pc 3 = [b, b1, b2]) : decode code pc = .ok (f (b1 * 256 + b2), 3) :=
  zdec 2 hK (zrd_at h 0 b rfl) (by rw [zbind (zu2 (zrd_at h 1 b1 rfl) (zrd_at h 2 b2 rfl))]; rfl)
theorem zy_s2 {code : ByteArray} {pc b b1 b2 : Nat} {v : Int} {f : Int → Instr} (hK : zK b (do pure (f (← Reader.s2)))) (h : zrd code pc 3 = [b, b1, b2]) (hv : Reader.signed 16 (b1 * 256 + b2) = v) : decode code pc = .ok (f v, 3) := by
  subst hv
  have e : (Reader.s2 : Decoder Int) code (pc + 1) = .ok (Reader.signed 16 (b1 * 256 + b2), pc + 1 + 2) := zmap (zu2 (zrd_at h 1 b1 rfl) (zrd_at h 2 b2 rfl))
  exact zdec 2 hK (zrd_at h 0 b rfl) (by rw [zbind e]; rfl)
theorem zy_ii {code : ByteArray} {pc b b1 b2 : Nat} {v : Int} {f : Nat → Int → Instr} (hK : zK b (do pure (f (← Reader.u1) (← Reader.s1)))) (h : zrd code pc 3 = [b, b1, b2]) (hv : Reader.signed 8 b2 = v) : decode code pc = .ok (f b1 v, 3) := by
  subst hv
  have e : (Reader.s1 : Decoder Int) code (pc + 1 + 1) = .ok (Reader.signed 8 b2, pc + 1 + 1 + 1) := zmap (zu1 (zrd_at h 2 b2 rfl))
  exact zdec 2 hK (zrd_at h 0 b rfl) (by rw [zbind (zu1 (zrd_at h 1 b1 rfl)), zbind e]; rfl)
end ZD
theorem zK_2 : zK 2 (pure (.iconst (-1))) := fun pc => ⟨_, rfl, rfl⟩
theorem zK_3 : zK 3 (pure (.iconst 0)) := fun pc => ⟨_, rfl, rfl⟩
theorem zK_4 : zK 4 (pure (.iconst 1)) := fun pc => ⟨_, rfl, rfl⟩
theorem zK_5 : zK 5 (pure (.iconst 2)) := fun pc => ⟨_, rfl, rfl⟩
theorem zK_6 : zK 6 (pure (.iconst 3)) := fun pc => ⟨_, rfl, rfl⟩
theorem zK_7 : zK 7 (pure (.iconst 4)) := fun pc => ⟨_, rfl, rfl⟩
theorem zK_8 : zK 8 (pure (.iconst 5)) := fun pc => ⟨_, rfl, rfl⟩
theorem zK_9 : zK 9 (pure (.lconst 0)) := fun pc => ⟨_, rfl, rfl⟩
theorem zK_10 : zK 10 (pure (.lconst 1)) := fun pc => ⟨_, rfl, rfl⟩
theorem zK_16 : zK 16 (do pure (.bipush (← Reader.s1))) := fun pc => ⟨_, rfl, rfl⟩
theorem zK_17 : zK 17 (do pure (.sipush (← Reader.s2))) := fun pc => ⟨_, rfl, rfl⟩
theorem zK_18 : zK 18 (do pure (.ldc (← Reader.u1))) := fun pc => ⟨_, rfl, rfl⟩
theorem zK_19 : zK 19 (do pure (.ldc_w (← Reader.u2))) := fun pc => ⟨_, rfl, rfl⟩
theorem zK_20 : zK 20 (do pure (.ldc2_w (← Reader.u2))) := fun pc => ⟨_, rfl, rfl⟩
theorem zK_21 : zK 21 (do pure (.iload (← Reader.u1))) := fun pc => ⟨_, rfl, rfl⟩
theorem zK_22 : zK 22 (do pure (.lload (← Reader.u1))) := fun pc => ⟨_, rfl, rfl⟩
theorem zK_26 : zK 26 (pure (.iload_n 0)) := fun pc => ⟨_, rfl, rfl⟩
theorem zK_27 : zK 27 (pure (.iload_n 1)) := fun pc => ⟨_, rfl, rfl⟩
theorem zK_28 : zK 28 (pure (.iload_n 2)) := fun pc => ⟨_, rfl, rfl⟩
theorem zK_29 : zK 29 (pure (.iload_n 3)) := fun pc => ⟨_, rfl, rfl⟩
theorem zK_30 : zK 30 (pure (.lload_n 0)) := fun pc => ⟨_, rfl, rfl⟩
theorem zK_32 : zK 32 (pure (.lload_n 2)) := fun pc => ⟨_, rfl, rfl⟩
theorem zK_42 : zK 42 (pure (.aload_n 0)) := fun pc => ⟨_, rfl, rfl⟩
theorem zK_43 : zK 43 (pure (.aload_n 1)) := fun pc => ⟨_, rfl, rfl⟩
theorem zK_44 : zK 44 (pure (.aload_n 2)) := fun pc => ⟨_, rfl, rfl⟩
theorem zK_45 : zK 45 (pure (.aload_n 3)) := fun pc => ⟨_, rfl, rfl⟩
theorem zK_46 : zK 46 (pure (.iaload)) := fun pc => ⟨_, rfl, rfl⟩
theorem zK_47 : zK 47 (pure (.laload)) := fun pc => ⟨_, rfl, rfl⟩
theorem zK_50 : zK 50 (pure (.aaload)) := fun pc => ⟨_, rfl, rfl⟩
theorem zK_51 : zK 51 (pure (.baload)) := fun pc => ⟨_, rfl, rfl⟩
theorem zK_54 : zK 54 (do pure (.istore (← Reader.u1))) := fun pc => ⟨_, rfl, rfl⟩
theorem zK_55 : zK 55 (do pure (.lstore (← Reader.u1))) := fun pc => ⟨_, rfl, rfl⟩
theorem zK_59 : zK 59 (pure (.istore_n 0)) := fun pc => ⟨_, rfl, rfl⟩
theorem zK_60 : zK 60 (pure (.istore_n 1)) := fun pc => ⟨_, rfl, rfl⟩
theorem zK_61 : zK 61 (pure (.istore_n 2)) := fun pc => ⟨_, rfl, rfl⟩
theorem zK_62 : zK 62 (pure (.istore_n 3)) := fun pc => ⟨_, rfl, rfl⟩
theorem zK_65 : zK 65 (pure (.lstore_n 2)) := fun pc => ⟨_, rfl, rfl⟩
theorem zK_76 : zK 76 (pure (.astore_n 1)) := fun pc => ⟨_, rfl, rfl⟩
theorem zK_77 : zK 77 (pure (.astore_n 2)) := fun pc => ⟨_, rfl, rfl⟩
theorem zK_78 : zK 78 (pure (.astore_n 3)) := fun pc => ⟨_, rfl, rfl⟩
theorem zK_79 : zK 79 (pure (.iastore)) := fun pc => ⟨_, rfl, rfl⟩
theorem zK_80 : zK 80 (pure (.lastore)) := fun pc => ⟨_, rfl, rfl⟩
theorem zK_83 : zK 83 (pure (.aastore)) := fun pc => ⟨_, rfl, rfl⟩
theorem zK_84 : zK 84 (pure (.bastore)) := fun pc => ⟨_, rfl, rfl⟩
theorem zK_87 : zK 87 (pure (.pop)) := fun pc => ⟨_, rfl, rfl⟩
theorem zK_89 : zK 89 (pure (.dup)) := fun pc => ⟨_, rfl, rfl⟩
theorem zK_92 : zK 92 (pure (.dup2)) := fun pc => ⟨_, rfl, rfl⟩
theorem zK_96 : zK 96 (pure (.iadd)) := fun pc => ⟨_, rfl, rfl⟩
theorem zK_100 : zK 100 (pure (.isub)) := fun pc => ⟨_, rfl, rfl⟩
theorem zK_101 : zK 101 (pure (.lsub)) := fun pc => ⟨_, rfl, rfl⟩
theorem zK_104 : zK 104 (pure (.imul)) := fun pc => ⟨_, rfl, rfl⟩
theorem zK_105 : zK 105 (pure (.lmul)) := fun pc => ⟨_, rfl, rfl⟩
theorem zK_108 : zK 108 (pure (.idiv)) := fun pc => ⟨_, rfl, rfl⟩
theorem zK_109 : zK 109 (pure (.ldiv)) := fun pc => ⟨_, rfl, rfl⟩
theorem zK_112 : zK 112 (pure (.irem)) := fun pc => ⟨_, rfl, rfl⟩
theorem zK_113 : zK 113 (pure (.lrem)) := fun pc => ⟨_, rfl, rfl⟩
theorem zK_116 : zK 116 (pure (.ineg)) := fun pc => ⟨_, rfl, rfl⟩
theorem zK_120 : zK 120 (pure (.ishl)) := fun pc => ⟨_, rfl, rfl⟩
theorem zK_121 : zK 121 (pure (.lshl)) := fun pc => ⟨_, rfl, rfl⟩
theorem zK_122 : zK 122 (pure (.ishr)) := fun pc => ⟨_, rfl, rfl⟩
theorem zK_124 : zK 124 (pure (.iushr)) := fun pc => ⟨_, rfl, rfl⟩
theorem zK_126 : zK 126 (pure (.iand)) := fun pc => ⟨_, rfl, rfl⟩
theorem zK_128 : zK 128 (pure (.ior)) := fun pc => ⟨_, rfl, rfl⟩
theorem zK_129 : zK 129 (pure (.lor)) := fun pc => ⟨_, rfl, rfl⟩
theorem zK_130 : zK 130 (pure (.ixor)) := fun pc => ⟨_, rfl, rfl⟩
theorem zK_132 : zK 132 (do pure (.iinc (← Reader.u1) (← Reader.s1))) := fun pc => ⟨_, rfl, rfl⟩
theorem zK_133 : zK 133 (pure (.i2l)) := fun pc => ⟨_, rfl, rfl⟩
theorem zK_145 : zK 145 (pure (.i2b)) := fun pc => ⟨_, rfl, rfl⟩
theorem zK_146 : zK 146 (pure (.i2c)) := fun pc => ⟨_, rfl, rfl⟩
theorem zK_148 : zK 148 (pure (.lcmp)) := fun pc => ⟨_, rfl, rfl⟩
theorem zK_153 : zK 153 (do pure (.ifCond .eq (← Reader.s2))) := fun pc => ⟨_, rfl, rfl⟩
theorem zK_154 : zK 154 (do pure (.ifCond .ne (← Reader.s2))) := fun pc => ⟨_, rfl, rfl⟩
theorem zK_155 : zK 155 (do pure (.ifCond .lt (← Reader.s2))) := fun pc => ⟨_, rfl, rfl⟩
theorem zK_156 : zK 156 (do pure (.ifCond .ge (← Reader.s2))) := fun pc => ⟨_, rfl, rfl⟩
theorem zK_157 : zK 157 (do pure (.ifCond .gt (← Reader.s2))) := fun pc => ⟨_, rfl, rfl⟩
theorem zK_158 : zK 158 (do pure (.ifCond .le (← Reader.s2))) := fun pc => ⟨_, rfl, rfl⟩
theorem zK_159 : zK 159 (do pure (.if_icmp .eq (← Reader.s2))) := fun pc => ⟨_, rfl, rfl⟩
theorem zK_160 : zK 160 (do pure (.if_icmp .ne (← Reader.s2))) := fun pc => ⟨_, rfl, rfl⟩
theorem zK_161 : zK 161 (do pure (.if_icmp .lt (← Reader.s2))) := fun pc => ⟨_, rfl, rfl⟩
theorem zK_162 : zK 162 (do pure (.if_icmp .ge (← Reader.s2))) := fun pc => ⟨_, rfl, rfl⟩
theorem zK_163 : zK 163 (do pure (.if_icmp .gt (← Reader.s2))) := fun pc => ⟨_, rfl, rfl⟩
theorem zK_164 : zK 164 (do pure (.if_icmp .le (← Reader.s2))) := fun pc => ⟨_, rfl, rfl⟩
theorem zK_167 : zK 167 (do pure (.goto (← Reader.s2))) := fun pc => ⟨_, rfl, rfl⟩
theorem zK_172 : zK 172 (pure (.ireturn)) := fun pc => ⟨_, rfl, rfl⟩
theorem zK_173 : zK 173 (pure (.lreturn)) := fun pc => ⟨_, rfl, rfl⟩
theorem zK_176 : zK 176 (pure (.areturn)) := fun pc => ⟨_, rfl, rfl⟩
theorem zK_177 : zK 177 (pure (.return_)) := fun pc => ⟨_, rfl, rfl⟩
theorem zK_178 : zK 178 (do pure (.getstatic (← Reader.u2))) := fun pc => ⟨_, rfl, rfl⟩
theorem zK_180 : zK 180 (do pure (.getfield (← Reader.u2))) := fun pc => ⟨_, rfl, rfl⟩
theorem zK_181 : zK 181 (do pure (.putfield (← Reader.u2))) := fun pc => ⟨_, rfl, rfl⟩
theorem zK_182 : zK 182 (do pure (.invokevirtual (← Reader.u2))) := fun pc => ⟨_, rfl, rfl⟩
theorem zK_183 : zK 183 (do pure (.invokespecial (← Reader.u2))) := fun pc => ⟨_, rfl, rfl⟩
theorem zK_184 : zK 184 (do pure (.invokestatic (← Reader.u2))) := fun pc => ⟨_, rfl, rfl⟩
theorem zK_187 : zK 187 (do pure (.new (← Reader.u2))) := fun pc => ⟨_, rfl, rfl⟩
theorem zK_189 : zK 189 (do pure (.anewarray (← Reader.u2))) := fun pc => ⟨_, rfl, rfl⟩
theorem zK_190 : zK 190 (pure (.arraylength)) := fun pc => ⟨_, rfl, rfl⟩
theorem zK_191 : zK 191 (pure (.athrow)) := fun pc => ⟨_, rfl, rfl⟩
