def popc (np lb : Nat) : Nat := cnt (fun q => lb.testBit q) np
theorem ushrN {n : Nat} (hn : n < 2 ^ 31) (k : Nat) (b : UInt32) (hk : b.toNat % 32 = k) : ((nI n).toUInt32 >>> b).toInt32 = nI (n >>> k) := by
  have e : (nI n).toUInt32 >>> b = (nI (n >>> k)).toUInt32 := by
    apply UInt32.toNat.inj
    rw [UInt32.toNat_shiftRight, hk]
    have e1 : ((nI n).toUInt32).toNat = n := UInt32.toNat_ofNat_of_lt (by show n < 2 ^ 32; omega)
    have h2 : n >>> k ≤ n := Nat.shiftRight_le n k
    have e2 : ((nI (n >>> k)).toUInt32).toNat = n >>> k := UInt32.toNat_ofNat_of_lt (by show n >>> k < 2 ^ 32; omega)
    rw [e1, e2]
  rw [e]
  rfl
def bcN (x : Nat) : Nat :=
  let a := x - ((x >>> 1) &&& 1431655765)
  let b := (a &&& 858993459) + ((a >>> 2) &&& 858993459)
  let c := (b + (b >>> 4)) &&& 252645135
  let d := c + (c >>> 8)
  (d + (d >>> 16)) &&& 63
theorem bcE_N {x : Nat} (hx : x < 65536) : bcE (nI x) = nI (bcN x) := by
  have l1 : (x >>> 1) &&& 1431655765 ≤ x := Nat.le_trans Nat.and_le_left (Nat.shiftRight_le x 1)
  unfold bcE bcN
  dsimp only
  rw [ushrN (n := x) (by omega) 1 _ rfl, show (1431655765 : Int32) = nI 1431655765 from rfl, nI_and, pk_sub l1]
  generalize ha : x - ((x >>> 1) &&& 1431655765) = a
  have la : a < 65536 := by omega
  have la2 : a >>> 2 ≤ a := Nat.shiftRight_le a 2
  have l2 : (a &&& 858993459) ≤ a := Nat.and_le_left
  have l3 : ((a >>> 2) &&& 858993459) ≤ a >>> 2 := Nat.and_le_left
  rw [ushrN (n := a) (by omega) 2 _ rfl, show (858993459 : Int32) = nI 858993459 from rfl, nI_and, nI_and, nI_add]
  generalize hb : (a &&& 858993459) + ((a >>> 2) &&& 858993459) = b
  have lb : b < 131072 := by omega
  have lb2 : b >>> 4 ≤ b := Nat.shiftRight_le b 4
  rw [ushrN (n := b) (by omega) 4 _ rfl, show (252645135 : Int32) = nI 252645135 from rfl, nI_add, nI_and]
  have l5 : (b + b >>> 4) &&& 252645135 ≤ b + b >>> 4 := Nat.and_le_left
  generalize hc : (b + b >>> 4) &&& 252645135 = c
  have lc : c < 262144 := by omega
  have lc2 : c >>> 8 ≤ c := Nat.shiftRight_le c 8
  rw [ushrN (n := c) (by omega) 8 _ rfl, nI_add]
  generalize hd : c + c >>> 8 = d
  have ld : d < 524288 := by omega
  rw [ushrN (n := d) (by omega) 16 _ rfl, nI_add, nI_and]
def popF (x : Nat) : Nat → Nat
  | 0 => 0
  | n + 1 => popF x n + x / 2 ^ n % 2
theorem popF_of (x : Nat) : ∀ n, popF x n = popc n x := by
  intro n
  induction n with
  | zero => rfl
  | succ n ih =>
    have ht : x.testBit n = decide (x / 2 ^ n % 2 = 1) := Nat.testBit_eq_decide_div_mod_eq
    show popF x n + x / 2 ^ n % 2 = popc n x + (if x.testBit n = true then 1 else 0)
    rw [ih]
    rcases Nat.mod_two_eq_zero_or_one (x / 2 ^ n) with h | h
    · simp [ht, h]
    · simp [ht, h]
def bcT (b : Nat) : Nat → Bool
  | 0 => true
  | n + 1 => Nat.beq (bcN (b + n)) (popF (b + n) 16) && bcT b n
theorem bcT_of {b : Nat} : ∀ {n : Nat}, bcT b n = true → ∀ i, i < n → bcN (b + i) = popc 16 (b + i) := by
  intro n
  induction n with
  | zero => intro _ i hi; exact absurd hi (Nat.not_lt_zero i)
  | succ n ih =>
    intro h i hi
    simp only [bcT, Bool.and_eq_true] at h
    rcases Nat.lt_succ_iff_lt_or_eq.mp hi with q | q
    · exact ih h.2 i q
    · rw [q, ← popF_of]; exact Nat.eq_of_beq_eq_true h.1
set_option maxRecDepth 100000 in
theorem bc_0 : bcT 0 512 = true := by decide +kernel
set_option maxRecDepth 100000 in
theorem bc_1 : bcT 512 512 = true := by decide +kernel
set_option maxRecDepth 100000 in
theorem bc_2 : bcT 1024 512 = true := by decide +kernel
set_option maxRecDepth 100000 in
theorem bc_3 : bcT 1536 512 = true := by decide +kernel
set_option maxRecDepth 100000 in
theorem bc_4 : bcT 2048 512 = true := by decide +kernel
set_option maxRecDepth 100000 in
theorem bc_5 : bcT 2560 512 = true := by decide +kernel
set_option maxRecDepth 100000 in
theorem bc_6 : bcT 3072 512 = true := by decide +kernel
set_option maxRecDepth 100000 in
theorem bc_7 : bcT 3584 512 = true := by decide +kernel
set_option maxRecDepth 100000 in
theorem bc_8 : bcT 4096 512 = true := by decide +kernel
set_option maxRecDepth 100000 in
theorem bc_9 : bcT 4608 512 = true := by decide +kernel
set_option maxRecDepth 100000 in
theorem bc_10 : bcT 5120 512 = true := by decide +kernel
set_option maxRecDepth 100000 in
theorem bc_11 : bcT 5632 512 = true := by decide +kernel
set_option maxRecDepth 100000 in
theorem bc_12 : bcT 6144 512 = true := by decide +kernel
set_option maxRecDepth 100000 in
theorem bc_13 : bcT 6656 512 = true := by decide +kernel
set_option maxRecDepth 100000 in
theorem bc_14 : bcT 7168 512 = true := by decide +kernel
set_option maxRecDepth 100000 in
theorem bc_15 : bcT 7680 512 = true := by decide +kernel
set_option maxRecDepth 100000 in
theorem bc_16 : bcT 8192 512 = true := by decide +kernel
set_option maxRecDepth 100000 in
theorem bc_17 : bcT 8704 512 = true := by decide +kernel
set_option maxRecDepth 100000 in
theorem bc_18 : bcT 9216 512 = true := by decide +kernel
set_option maxRecDepth 100000 in
theorem bc_19 : bcT 9728 512 = true := by decide +kernel
set_option maxRecDepth 100000 in
theorem bc_20 : bcT 10240 512 = true := by decide +kernel
set_option maxRecDepth 100000 in
theorem bc_21 : bcT 10752 512 = true := by decide +kernel
set_option maxRecDepth 100000 in
theorem bc_22 : bcT 11264 512 = true := by decide +kernel
set_option maxRecDepth 100000 in
theorem bc_23 : bcT 11776 512 = true := by decide +kernel
set_option maxRecDepth 100000 in
theorem bc_24 : bcT 12288 512 = true := by decide +kernel
set_option maxRecDepth 100000 in
theorem bc_25 : bcT 12800 512 = true := by decide +kernel
set_option maxRecDepth 100000 in
theorem bc_26 : bcT 13312 512 = true := by decide +kernel
set_option maxRecDepth 100000 in
theorem bc_27 : bcT 13824 512 = true := by decide +kernel
set_option maxRecDepth 100000 in
theorem bc_28 : bcT 14336 512 = true := by decide +kernel
set_option maxRecDepth 100000 in
theorem bc_29 : bcT 14848 512 = true := by decide +kernel
set_option maxRecDepth 100000 in
theorem bc_30 : bcT 15360 512 = true := by decide +kernel
set_option maxRecDepth 100000 in
theorem bc_31 : bcT 15872 512 = true := by decide +kernel
set_option maxRecDepth 100000 in
theorem bc_32 : bcT 16384 512 = true := by decide +kernel
set_option maxRecDepth 100000 in
theorem bc_33 : bcT 16896 512 = true := by decide +kernel
set_option maxRecDepth 100000 in
theorem bc_34 : bcT 17408 512 = true := by decide +kernel
set_option maxRecDepth 100000 in
theorem bc_35 : bcT 17920 512 = true := by decide +kernel
set_option maxRecDepth 100000 in
theorem bc_36 : bcT 18432 512 = true := by decide +kernel
set_option maxRecDepth 100000 in
theorem bc_37 : bcT 18944 512 = true := by decide +kernel
set_option maxRecDepth 100000 in
theorem bc_38 : bcT 19456 512 = true := by decide +kernel
set_option maxRecDepth 100000 in
theorem bc_39 : bcT 19968 512 = true := by decide +kernel
set_option maxRecDepth 100000 in
theorem bc_40 : bcT 20480 512 = true := by decide +kernel
set_option maxRecDepth 100000 in
theorem bc_41 : bcT 20992 512 = true := by decide +kernel
set_option maxRecDepth 100000 in
theorem bc_42 : bcT 21504 512 = true := by decide +kernel
set_option maxRecDepth 100000 in
theorem bc_43 : bcT 22016 512 = true := by decide +kernel
set_option maxRecDepth 100000 in
theorem bc_44 : bcT 22528 512 = true := by decide +kernel
set_option maxRecDepth 100000 in
theorem bc_45 : bcT 23040 512 = true := by decide +kernel
set_option maxRecDepth 100000 in
theorem bc_46 : bcT 23552 512 = true := by decide +kernel
set_option maxRecDepth 100000 in
theorem bc_47 : bcT 24064 512 = true := by decide +kernel
set_option maxRecDepth 100000 in
theorem bc_48 : bcT 24576 512 = true := by decide +kernel
set_option maxRecDepth 100000 in
theorem bc_49 : bcT 25088 512 = true := by decide +kernel
set_option maxRecDepth 100000 in
theorem bc_50 : bcT 25600 512 = true := by decide +kernel
set_option maxRecDepth 100000 in
theorem bc_51 : bcT 26112 512 = true := by decide +kernel
set_option maxRecDepth 100000 in
theorem bc_52 : bcT 26624 512 = true := by decide +kernel
set_option maxRecDepth 100000 in
theorem bc_53 : bcT 27136 512 = true := by decide +kernel
set_option maxRecDepth 100000 in
theorem bc_54 : bcT 27648 512 = true := by decide +kernel
set_option maxRecDepth 100000 in
theorem bc_55 : bcT 28160 512 = true := by decide +kernel
set_option maxRecDepth 100000 in
theorem bc_56 : bcT 28672 512 = true := by decide +kernel
set_option maxRecDepth 100000 in
theorem bc_57 : bcT 29184 512 = true := by decide +kernel
set_option maxRecDepth 100000 in
theorem bc_58 : bcT 29696 512 = true := by decide +kernel
set_option maxRecDepth 100000 in
theorem bc_59 : bcT 30208 512 = true := by decide +kernel
set_option maxRecDepth 100000 in
theorem bc_60 : bcT 30720 512 = true := by decide +kernel
set_option maxRecDepth 100000 in
theorem bc_61 : bcT 31232 512 = true := by decide +kernel
set_option maxRecDepth 100000 in
theorem bc_62 : bcT 31744 512 = true := by decide +kernel
set_option maxRecDepth 100000 in
theorem bc_63 : bcT 32256 512 = true := by decide +kernel
set_option maxRecDepth 100000 in
theorem bc_64 : bcT 32768 512 = true := by decide +kernel
set_option maxRecDepth 100000 in
theorem bc_65 : bcT 33280 512 = true := by decide +kernel
set_option maxRecDepth 100000 in
theorem bc_66 : bcT 33792 512 = true := by decide +kernel
set_option maxRecDepth 100000 in
theorem bc_67 : bcT 34304 512 = true := by decide +kernel
set_option maxRecDepth 100000 in
theorem bc_68 : bcT 34816 512 = true := by decide +kernel
set_option maxRecDepth 100000 in
theorem bc_69 : bcT 35328 512 = true := by decide +kernel
set_option maxRecDepth 100000 in
theorem bc_70 : bcT 35840 512 = true := by decide +kernel
set_option maxRecDepth 100000 in
theorem bc_71 : bcT 36352 512 = true := by decide +kernel
set_option maxRecDepth 100000 in
theorem bc_72 : bcT 36864 512 = true := by decide +kernel
set_option maxRecDepth 100000 in
theorem bc_73 : bcT 37376 512 = true := by decide +kernel
set_option maxRecDepth 100000 in
theorem bc_74 : bcT 37888 512 = true := by decide +kernel
set_option maxRecDepth 100000 in
theorem bc_75 : bcT 38400 512 = true := by decide +kernel
set_option maxRecDepth 100000 in
theorem bc_76 : bcT 38912 512 = true := by decide +kernel
set_option maxRecDepth 100000 in
theorem bc_77 : bcT 39424 512 = true := by decide +kernel
set_option maxRecDepth 100000 in
theorem bc_78 : bcT 39936 512 = true := by decide +kernel
set_option maxRecDepth 100000 in
theorem bc_79 : bcT 40448 512 = true := by decide +kernel
set_option maxRecDepth 100000 in
theorem bc_80 : bcT 40960 512 = true := by decide +kernel
set_option maxRecDepth 100000 in
theorem bc_81 : bcT 41472 512 = true := by decide +kernel
set_option maxRecDepth 100000 in
theorem bc_82 : bcT 41984 512 = true := by decide +kernel
set_option maxRecDepth 100000 in
theorem bc_83 : bcT 42496 512 = true := by decide +kernel
set_option maxRecDepth 100000 in
theorem bc_84 : bcT 43008 512 = true := by decide +kernel
set_option maxRecDepth 100000 in
theorem bc_85 : bcT 43520 512 = true := by decide +kernel
set_option maxRecDepth 100000 in
theorem bc_86 : bcT 44032 512 = true := by decide +kernel
set_option maxRecDepth 100000 in
theorem bc_87 : bcT 44544 512 = true := by decide +kernel
set_option maxRecDepth 100000 in
theorem bc_88 : bcT 45056 512 = true := by decide +kernel
set_option maxRecDepth 100000 in
theorem bc_89 : bcT 45568 512 = true := by decide +kernel
set_option maxRecDepth 100000 in
theorem bc_90 : bcT 46080 512 = true := by decide +kernel
set_option maxRecDepth 100000 in
theorem bc_91 : bcT 46592 512 = true := by decide +kernel
set_option maxRecDepth 100000 in
theorem bc_92 : bcT 47104 512 = true := by decide +kernel
set_option maxRecDepth 100000 in
theorem bc_93 : bcT 47616 512 = true := by decide +kernel
set_option maxRecDepth 100000 in
theorem bc_94 : bcT 48128 512 = true := by decide +kernel
set_option maxRecDepth 100000 in
theorem bc_95 : bcT 48640 512 = true := by decide +kernel
set_option maxRecDepth 100000 in
theorem bc_96 : bcT 49152 512 = true := by decide +kernel
set_option maxRecDepth 100000 in
theorem bc_97 : bcT 49664 512 = true := by decide +kernel
set_option maxRecDepth 100000 in
theorem bc_98 : bcT 50176 512 = true := by decide +kernel
set_option maxRecDepth 100000 in
theorem bc_99 : bcT 50688 512 = true := by decide +kernel
set_option maxRecDepth 100000 in
theorem bc_100 : bcT 51200 512 = true := by decide +kernel
set_option maxRecDepth 100000 in
theorem bc_101 : bcT 51712 512 = true := by decide +kernel
set_option maxRecDepth 100000 in
theorem bc_102 : bcT 52224 512 = true := by decide +kernel
set_option maxRecDepth 100000 in
theorem bc_103 : bcT 52736 512 = true := by decide +kernel
set_option maxRecDepth 100000 in
theorem bc_104 : bcT 53248 512 = true := by decide +kernel
set_option maxRecDepth 100000 in
theorem bc_105 : bcT 53760 512 = true := by decide +kernel
set_option maxRecDepth 100000 in
theorem bc_106 : bcT 54272 512 = true := by decide +kernel
set_option maxRecDepth 100000 in
theorem bc_107 : bcT 54784 512 = true := by decide +kernel
set_option maxRecDepth 100000 in
theorem bc_108 : bcT 55296 512 = true := by decide +kernel
set_option maxRecDepth 100000 in
theorem bc_109 : bcT 55808 512 = true := by decide +kernel
set_option maxRecDepth 100000 in
theorem bc_110 : bcT 56320 512 = true := by decide +kernel
set_option maxRecDepth 100000 in
theorem bc_111 : bcT 56832 512 = true := by decide +kernel
set_option maxRecDepth 100000 in
theorem bc_112 : bcT 57344 512 = true := by decide +kernel
set_option maxRecDepth 100000 in
theorem bc_113 : bcT 57856 512 = true := by decide +kernel
set_option maxRecDepth 100000 in
theorem bc_114 : bcT 58368 512 = true := by decide +kernel
set_option maxRecDepth 100000 in
theorem bc_115 : bcT 58880 512 = true := by decide +kernel
set_option maxRecDepth 100000 in
theorem bc_116 : bcT 59392 512 = true := by decide +kernel
set_option maxRecDepth 100000 in
theorem bc_117 : bcT 59904 512 = true := by decide +kernel
set_option maxRecDepth 100000 in
theorem bc_118 : bcT 60416 512 = true := by decide +kernel
set_option maxRecDepth 100000 in
theorem bc_119 : bcT 60928 512 = true := by decide +kernel
set_option maxRecDepth 100000 in
theorem bc_120 : bcT 61440 512 = true := by decide +kernel
set_option maxRecDepth 100000 in
theorem bc_121 : bcT 61952 512 = true := by decide +kernel
set_option maxRecDepth 100000 in
theorem bc_122 : bcT 62464 512 = true := by decide +kernel
set_option maxRecDepth 100000 in
theorem bc_123 : bcT 62976 512 = true := by decide +kernel
set_option maxRecDepth 100000 in
theorem bc_124 : bcT 63488 512 = true := by decide +kernel
set_option maxRecDepth 100000 in
theorem bc_125 : bcT 64000 512 = true := by decide +kernel
set_option maxRecDepth 100000 in
theorem bc_126 : bcT 64512 512 = true := by decide +kernel
set_option maxRecDepth 100000 in
theorem bc_127 : bcT 65024 512 = true := by decide +kernel
theorem bc_all {x : Nat} (hx : x < 65536) : bcE (nI x) = nI (popc 16 x) := by
  rw [bcE_N hx]
  congr 1
  rcases Nat.lt_or_ge x 32768 with z64 | z64
  · rcases Nat.lt_or_ge x 16384 with z32 | z32
    · rcases Nat.lt_or_ge x 8192 with z16 | z16
      · rcases Nat.lt_or_ge x 4096 with z8 | z8
        · rcases Nat.lt_or_ge x 2048 with z4 | z4
          · rcases Nat.lt_or_ge x 1024 with z2 | z2
            · rcases Nat.lt_or_ge x 512 with z1 | z1
              · have := bcT_of bc_0 (x - 0) (by omega)
                rw [show 0 + (x - 0) = x by omega] at this
                exact this
              · have := bcT_of bc_1 (x - 512) (by omega)
                rw [show 512 + (x - 512) = x by omega] at this
                exact this
            · rcases Nat.lt_or_ge x 1536 with z3 | z3
              · have := bcT_of bc_2 (x - 1024) (by omega)
                rw [show 1024 + (x - 1024) = x by omega] at this
                exact this
              · have := bcT_of bc_3 (x - 1536) (by omega)
                rw [show 1536 + (x - 1536) = x by omega] at this
                exact this
          · rcases Nat.lt_or_ge x 3072 with z6 | z6
            · rcases Nat.lt_or_ge x 2560 with z5 | z5
              · have := bcT_of bc_4 (x - 2048) (by omega)
                rw [show 2048 + (x - 2048) = x by omega] at this
                exact this
              · have := bcT_of bc_5 (x - 2560) (by omega)
                rw [show 2560 + (x - 2560) = x by omega] at this
                exact this
            · rcases Nat.lt_or_ge x 3584 with z7 | z7
              · have := bcT_of bc_6 (x - 3072) (by omega)
                rw [show 3072 + (x - 3072) = x by omega] at this
                exact this
              · have := bcT_of bc_7 (x - 3584) (by omega)
                rw [show 3584 + (x - 3584) = x by omega] at this
                exact this
        · rcases Nat.lt_or_ge x 6144 with z12 | z12
          · rcases Nat.lt_or_ge x 5120 with z10 | z10
            · rcases Nat.lt_or_ge x 4608 with z9 | z9
              · have := bcT_of bc_8 (x - 4096) (by omega)
                rw [show 4096 + (x - 4096) = x by omega] at this
                exact this
              · have := bcT_of bc_9 (x - 4608) (by omega)
                rw [show 4608 + (x - 4608) = x by omega] at this
                exact this
            · rcases Nat.lt_or_ge x 5632 with z11 | z11
              · have := bcT_of bc_10 (x - 5120) (by omega)
                rw [show 5120 + (x - 5120) = x by omega] at this
                exact this
              · have := bcT_of bc_11 (x - 5632) (by omega)
                rw [show 5632 + (x - 5632) = x by omega] at this
                exact this
          · rcases Nat.lt_or_ge x 7168 with z14 | z14
            · rcases Nat.lt_or_ge x 6656 with z13 | z13
              · have := bcT_of bc_12 (x - 6144) (by omega)
                rw [show 6144 + (x - 6144) = x by omega] at this
                exact this
              · have := bcT_of bc_13 (x - 6656) (by omega)
                rw [show 6656 + (x - 6656) = x by omega] at this
                exact this
            · rcases Nat.lt_or_ge x 7680 with z15 | z15
              · have := bcT_of bc_14 (x - 7168) (by omega)
                rw [show 7168 + (x - 7168) = x by omega] at this
                exact this
              · have := bcT_of bc_15 (x - 7680) (by omega)
                rw [show 7680 + (x - 7680) = x by omega] at this
                exact this
      · rcases Nat.lt_or_ge x 12288 with z24 | z24
        · rcases Nat.lt_or_ge x 10240 with z20 | z20
          · rcases Nat.lt_or_ge x 9216 with z18 | z18
            · rcases Nat.lt_or_ge x 8704 with z17 | z17
              · have := bcT_of bc_16 (x - 8192) (by omega)
                rw [show 8192 + (x - 8192) = x by omega] at this
                exact this
              · have := bcT_of bc_17 (x - 8704) (by omega)
                rw [show 8704 + (x - 8704) = x by omega] at this
                exact this
            · rcases Nat.lt_or_ge x 9728 with z19 | z19
              · have := bcT_of bc_18 (x - 9216) (by omega)
                rw [show 9216 + (x - 9216) = x by omega] at this
                exact this
              · have := bcT_of bc_19 (x - 9728) (by omega)
                rw [show 9728 + (x - 9728) = x by omega] at this
                exact this
          · rcases Nat.lt_or_ge x 11264 with z22 | z22
            · rcases Nat.lt_or_ge x 10752 with z21 | z21
              · have := bcT_of bc_20 (x - 10240) (by omega)
                rw [show 10240 + (x - 10240) = x by omega] at this
                exact this
              · have := bcT_of bc_21 (x - 10752) (by omega)
                rw [show 10752 + (x - 10752) = x by omega] at this
                exact this
            · rcases Nat.lt_or_ge x 11776 with z23 | z23
              · have := bcT_of bc_22 (x - 11264) (by omega)
                rw [show 11264 + (x - 11264) = x by omega] at this
                exact this
              · have := bcT_of bc_23 (x - 11776) (by omega)
                rw [show 11776 + (x - 11776) = x by omega] at this
                exact this
        · rcases Nat.lt_or_ge x 14336 with z28 | z28
          · rcases Nat.lt_or_ge x 13312 with z26 | z26
            · rcases Nat.lt_or_ge x 12800 with z25 | z25
              · have := bcT_of bc_24 (x - 12288) (by omega)
                rw [show 12288 + (x - 12288) = x by omega] at this
                exact this
              · have := bcT_of bc_25 (x - 12800) (by omega)
                rw [show 12800 + (x - 12800) = x by omega] at this
                exact this
            · rcases Nat.lt_or_ge x 13824 with z27 | z27
              · have := bcT_of bc_26 (x - 13312) (by omega)
                rw [show 13312 + (x - 13312) = x by omega] at this
                exact this
              · have := bcT_of bc_27 (x - 13824) (by omega)
                rw [show 13824 + (x - 13824) = x by omega] at this
                exact this
          · rcases Nat.lt_or_ge x 15360 with z30 | z30
            · rcases Nat.lt_or_ge x 14848 with z29 | z29
              · have := bcT_of bc_28 (x - 14336) (by omega)
                rw [show 14336 + (x - 14336) = x by omega] at this
                exact this
              · have := bcT_of bc_29 (x - 14848) (by omega)
                rw [show 14848 + (x - 14848) = x by omega] at this
                exact this
            · rcases Nat.lt_or_ge x 15872 with z31 | z31
              · have := bcT_of bc_30 (x - 15360) (by omega)
                rw [show 15360 + (x - 15360) = x by omega] at this
                exact this
              · have := bcT_of bc_31 (x - 15872) (by omega)
                rw [show 15872 + (x - 15872) = x by omega] at this
                exact this
    · rcases Nat.lt_or_ge x 24576 with z48 | z48
      · rcases Nat.lt_or_ge x 20480 with z40 | z40
        · rcases Nat.lt_or_ge x 18432 with z36 | z36
          · rcases Nat.lt_or_ge x 17408 with z34 | z34
            · rcases Nat.lt_or_ge x 16896 with z33 | z33
              · have := bcT_of bc_32 (x - 16384) (by omega)
                rw [show 16384 + (x - 16384) = x by omega] at this
                exact this
              · have := bcT_of bc_33 (x - 16896) (by omega)
                rw [show 16896 + (x - 16896) = x by omega] at this
                exact this
            · rcases Nat.lt_or_ge x 17920 with z35 | z35
              · have := bcT_of bc_34 (x - 17408) (by omega)
                rw [show 17408 + (x - 17408) = x by omega] at this
                exact this
              · have := bcT_of bc_35 (x - 17920) (by omega)
                rw [show 17920 + (x - 17920) = x by omega] at this
                exact this
          · rcases Nat.lt_or_ge x 19456 with z38 | z38
            · rcases Nat.lt_or_ge x 18944 with z37 | z37
              · have := bcT_of bc_36 (x - 18432) (by omega)
                rw [show 18432 + (x - 18432) = x by omega] at this
                exact this
              · have := bcT_of bc_37 (x - 18944) (by omega)
                rw [show 18944 + (x - 18944) = x by omega] at this
                exact this
            · rcases Nat.lt_or_ge x 19968 with z39 | z39
              · have := bcT_of bc_38 (x - 19456) (by omega)
                rw [show 19456 + (x - 19456) = x by omega] at this
                exact this
              · have := bcT_of bc_39 (x - 19968) (by omega)
                rw [show 19968 + (x - 19968) = x by omega] at this
                exact this
        · rcases Nat.lt_or_ge x 22528 with z44 | z44
          · rcases Nat.lt_or_ge x 21504 with z42 | z42
            · rcases Nat.lt_or_ge x 20992 with z41 | z41
              · have := bcT_of bc_40 (x - 20480) (by omega)
                rw [show 20480 + (x - 20480) = x by omega] at this
                exact this
              · have := bcT_of bc_41 (x - 20992) (by omega)
                rw [show 20992 + (x - 20992) = x by omega] at this
                exact this
            · rcases Nat.lt_or_ge x 22016 with z43 | z43
              · have := bcT_of bc_42 (x - 21504) (by omega)
                rw [show 21504 + (x - 21504) = x by omega] at this
                exact this
              · have := bcT_of bc_43 (x - 22016) (by omega)
                rw [show 22016 + (x - 22016) = x by omega] at this
                exact this
          · rcases Nat.lt_or_ge x 23552 with z46 | z46
            · rcases Nat.lt_or_ge x 23040 with z45 | z45
              · have := bcT_of bc_44 (x - 22528) (by omega)
                rw [show 22528 + (x - 22528) = x by omega] at this
                exact this
              · have := bcT_of bc_45 (x - 23040) (by omega)
                rw [show 23040 + (x - 23040) = x by omega] at this
                exact this
            · rcases Nat.lt_or_ge x 24064 with z47 | z47
              · have := bcT_of bc_46 (x - 23552) (by omega)
                rw [show 23552 + (x - 23552) = x by omega] at this
                exact this
              · have := bcT_of bc_47 (x - 24064) (by omega)
                rw [show 24064 + (x - 24064) = x by omega] at this
                exact this
      · rcases Nat.lt_or_ge x 28672 with z56 | z56
        · rcases Nat.lt_or_ge x 26624 with z52 | z52
          · rcases Nat.lt_or_ge x 25600 with z50 | z50
            · rcases Nat.lt_or_ge x 25088 with z49 | z49
              · have := bcT_of bc_48 (x - 24576) (by omega)
                rw [show 24576 + (x - 24576) = x by omega] at this
                exact this
              · have := bcT_of bc_49 (x - 25088) (by omega)
                rw [show 25088 + (x - 25088) = x by omega] at this
                exact this
            · rcases Nat.lt_or_ge x 26112 with z51 | z51
              · have := bcT_of bc_50 (x - 25600) (by omega)
                rw [show 25600 + (x - 25600) = x by omega] at this
                exact this
              · have := bcT_of bc_51 (x - 26112) (by omega)
                rw [show 26112 + (x - 26112) = x by omega] at this
                exact this
          · rcases Nat.lt_or_ge x 27648 with z54 | z54
            · rcases Nat.lt_or_ge x 27136 with z53 | z53
              · have := bcT_of bc_52 (x - 26624) (by omega)
                rw [show 26624 + (x - 26624) = x by omega] at this
                exact this
              · have := bcT_of bc_53 (x - 27136) (by omega)
                rw [show 27136 + (x - 27136) = x by omega] at this
                exact this
            · rcases Nat.lt_or_ge x 28160 with z55 | z55
              · have := bcT_of bc_54 (x - 27648) (by omega)
                rw [show 27648 + (x - 27648) = x by omega] at this
                exact this
              · have := bcT_of bc_55 (x - 28160) (by omega)
                rw [show 28160 + (x - 28160) = x by omega] at this
                exact this
        · rcases Nat.lt_or_ge x 30720 with z60 | z60
          · rcases Nat.lt_or_ge x 29696 with z58 | z58
            · rcases Nat.lt_or_ge x 29184 with z57 | z57
              · have := bcT_of bc_56 (x - 28672) (by omega)
                rw [show 28672 + (x - 28672) = x by omega] at this
                exact this
              · have := bcT_of bc_57 (x - 29184) (by omega)
                rw [show 29184 + (x - 29184) = x by omega] at this
                exact this
            · rcases Nat.lt_or_ge x 30208 with z59 | z59
              · have := bcT_of bc_58 (x - 29696) (by omega)
                rw [show 29696 + (x - 29696) = x by omega] at this
                exact this
              · have := bcT_of bc_59 (x - 30208) (by omega)
                rw [show 30208 + (x - 30208) = x by omega] at this
                exact this
          · rcases Nat.lt_or_ge x 31744 with z62 | z62
            · rcases Nat.lt_or_ge x 31232 with z61 | z61
              · have := bcT_of bc_60 (x - 30720) (by omega)
                rw [show 30720 + (x - 30720) = x by omega] at this
                exact this
              · have := bcT_of bc_61 (x - 31232) (by omega)
                rw [show 31232 + (x - 31232) = x by omega] at this
                exact this
            · rcases Nat.lt_or_ge x 32256 with z63 | z63
              · have := bcT_of bc_62 (x - 31744) (by omega)
                rw [show 31744 + (x - 31744) = x by omega] at this
                exact this
              · have := bcT_of bc_63 (x - 32256) (by omega)
                rw [show 32256 + (x - 32256) = x by omega] at this
                exact this
  · rcases Nat.lt_or_ge x 49152 with z96 | z96
    · rcases Nat.lt_or_ge x 40960 with z80 | z80
      · rcases Nat.lt_or_ge x 36864 with z72 | z72
        · rcases Nat.lt_or_ge x 34816 with z68 | z68
          · rcases Nat.lt_or_ge x 33792 with z66 | z66
            · rcases Nat.lt_or_ge x 33280 with z65 | z65
              · have := bcT_of bc_64 (x - 32768) (by omega)
                rw [show 32768 + (x - 32768) = x by omega] at this
                exact this
              · have := bcT_of bc_65 (x - 33280) (by omega)
                rw [show 33280 + (x - 33280) = x by omega] at this
                exact this
            · rcases Nat.lt_or_ge x 34304 with z67 | z67
              · have := bcT_of bc_66 (x - 33792) (by omega)
                rw [show 33792 + (x - 33792) = x by omega] at this
                exact this
              · have := bcT_of bc_67 (x - 34304) (by omega)
                rw [show 34304 + (x - 34304) = x by omega] at this
                exact this
          · rcases Nat.lt_or_ge x 35840 with z70 | z70
            · rcases Nat.lt_or_ge x 35328 with z69 | z69
              · have := bcT_of bc_68 (x - 34816) (by omega)
                rw [show 34816 + (x - 34816) = x by omega] at this
                exact this
              · have := bcT_of bc_69 (x - 35328) (by omega)
                rw [show 35328 + (x - 35328) = x by omega] at this
                exact this
            · rcases Nat.lt_or_ge x 36352 with z71 | z71
              · have := bcT_of bc_70 (x - 35840) (by omega)
                rw [show 35840 + (x - 35840) = x by omega] at this
                exact this
              · have := bcT_of bc_71 (x - 36352) (by omega)
                rw [show 36352 + (x - 36352) = x by omega] at this
                exact this
        · rcases Nat.lt_or_ge x 38912 with z76 | z76
          · rcases Nat.lt_or_ge x 37888 with z74 | z74
            · rcases Nat.lt_or_ge x 37376 with z73 | z73
              · have := bcT_of bc_72 (x - 36864) (by omega)
                rw [show 36864 + (x - 36864) = x by omega] at this
                exact this
              · have := bcT_of bc_73 (x - 37376) (by omega)
                rw [show 37376 + (x - 37376) = x by omega] at this
                exact this
            · rcases Nat.lt_or_ge x 38400 with z75 | z75
              · have := bcT_of bc_74 (x - 37888) (by omega)
                rw [show 37888 + (x - 37888) = x by omega] at this
                exact this
              · have := bcT_of bc_75 (x - 38400) (by omega)
                rw [show 38400 + (x - 38400) = x by omega] at this
                exact this
          · rcases Nat.lt_or_ge x 39936 with z78 | z78
            · rcases Nat.lt_or_ge x 39424 with z77 | z77
              · have := bcT_of bc_76 (x - 38912) (by omega)
                rw [show 38912 + (x - 38912) = x by omega] at this
                exact this
              · have := bcT_of bc_77 (x - 39424) (by omega)
                rw [show 39424 + (x - 39424) = x by omega] at this
                exact this
            · rcases Nat.lt_or_ge x 40448 with z79 | z79
              · have := bcT_of bc_78 (x - 39936) (by omega)
                rw [show 39936 + (x - 39936) = x by omega] at this
                exact this
              · have := bcT_of bc_79 (x - 40448) (by omega)
                rw [show 40448 + (x - 40448) = x by omega] at this
                exact this
      · rcases Nat.lt_or_ge x 45056 with z88 | z88
        · rcases Nat.lt_or_ge x 43008 with z84 | z84
          · rcases Nat.lt_or_ge x 41984 with z82 | z82
            · rcases Nat.lt_or_ge x 41472 with z81 | z81
              · have := bcT_of bc_80 (x - 40960) (by omega)
                rw [show 40960 + (x - 40960) = x by omega] at this
                exact this
              · have := bcT_of bc_81 (x - 41472) (by omega)
                rw [show 41472 + (x - 41472) = x by omega] at this
                exact this
            · rcases Nat.lt_or_ge x 42496 with z83 | z83
              · have := bcT_of bc_82 (x - 41984) (by omega)
                rw [show 41984 + (x - 41984) = x by omega] at this
                exact this
              · have := bcT_of bc_83 (x - 42496) (by omega)
                rw [show 42496 + (x - 42496) = x by omega] at this
                exact this
          · rcases Nat.lt_or_ge x 44032 with z86 | z86
            · rcases Nat.lt_or_ge x 43520 with z85 | z85
              · have := bcT_of bc_84 (x - 43008) (by omega)
                rw [show 43008 + (x - 43008) = x by omega] at this
                exact this
              · have := bcT_of bc_85 (x - 43520) (by omega)
                rw [show 43520 + (x - 43520) = x by omega] at this
                exact this
            · rcases Nat.lt_or_ge x 44544 with z87 | z87
              · have := bcT_of bc_86 (x - 44032) (by omega)
                rw [show 44032 + (x - 44032) = x by omega] at this
                exact this
              · have := bcT_of bc_87 (x - 44544) (by omega)
                rw [show 44544 + (x - 44544) = x by omega] at this
                exact this
        · rcases Nat.lt_or_ge x 47104 with z92 | z92
          · rcases Nat.lt_or_ge x 46080 with z90 | z90
            · rcases Nat.lt_or_ge x 45568 with z89 | z89
              · have := bcT_of bc_88 (x - 45056) (by omega)
                rw [show 45056 + (x - 45056) = x by omega] at this
                exact this
              · have := bcT_of bc_89 (x - 45568) (by omega)
                rw [show 45568 + (x - 45568) = x by omega] at this
                exact this
            · rcases Nat.lt_or_ge x 46592 with z91 | z91
              · have := bcT_of bc_90 (x - 46080) (by omega)
                rw [show 46080 + (x - 46080) = x by omega] at this
                exact this
              · have := bcT_of bc_91 (x - 46592) (by omega)
                rw [show 46592 + (x - 46592) = x by omega] at this
                exact this
          · rcases Nat.lt_or_ge x 48128 with z94 | z94
            · rcases Nat.lt_or_ge x 47616 with z93 | z93
              · have := bcT_of bc_92 (x - 47104) (by omega)
                rw [show 47104 + (x - 47104) = x by omega] at this
                exact this
              · have := bcT_of bc_93 (x - 47616) (by omega)
                rw [show 47616 + (x - 47616) = x by omega] at this
                exact this
            · rcases Nat.lt_or_ge x 48640 with z95 | z95
              · have := bcT_of bc_94 (x - 48128) (by omega)
                rw [show 48128 + (x - 48128) = x by omega] at this
                exact this
              · have := bcT_of bc_95 (x - 48640) (by omega)
                rw [show 48640 + (x - 48640) = x by omega] at this
                exact this
    · rcases Nat.lt_or_ge x 57344 with z112 | z112
      · rcases Nat.lt_or_ge x 53248 with z104 | z104
        · rcases Nat.lt_or_ge x 51200 with z100 | z100
          · rcases Nat.lt_or_ge x 50176 with z98 | z98
            · rcases Nat.lt_or_ge x 49664 with z97 | z97
              · have := bcT_of bc_96 (x - 49152) (by omega)
                rw [show 49152 + (x - 49152) = x by omega] at this
                exact this
              · have := bcT_of bc_97 (x - 49664) (by omega)
                rw [show 49664 + (x - 49664) = x by omega] at this
                exact this
            · rcases Nat.lt_or_ge x 50688 with z99 | z99
              · have := bcT_of bc_98 (x - 50176) (by omega)
                rw [show 50176 + (x - 50176) = x by omega] at this
                exact this
              · have := bcT_of bc_99 (x - 50688) (by omega)
                rw [show 50688 + (x - 50688) = x by omega] at this
                exact this
          · rcases Nat.lt_or_ge x 52224 with z102 | z102
            · rcases Nat.lt_or_ge x 51712 with z101 | z101
              · have := bcT_of bc_100 (x - 51200) (by omega)
                rw [show 51200 + (x - 51200) = x by omega] at this
                exact this
              · have := bcT_of bc_101 (x - 51712) (by omega)
                rw [show 51712 + (x - 51712) = x by omega] at this
                exact this
            · rcases Nat.lt_or_ge x 52736 with z103 | z103
              · have := bcT_of bc_102 (x - 52224) (by omega)
                rw [show 52224 + (x - 52224) = x by omega] at this
                exact this
              · have := bcT_of bc_103 (x - 52736) (by omega)
                rw [show 52736 + (x - 52736) = x by omega] at this
                exact this
        · rcases Nat.lt_or_ge x 55296 with z108 | z108
          · rcases Nat.lt_or_ge x 54272 with z106 | z106
            · rcases Nat.lt_or_ge x 53760 with z105 | z105
              · have := bcT_of bc_104 (x - 53248) (by omega)
                rw [show 53248 + (x - 53248) = x by omega] at this
                exact this
              · have := bcT_of bc_105 (x - 53760) (by omega)
                rw [show 53760 + (x - 53760) = x by omega] at this
                exact this
            · rcases Nat.lt_or_ge x 54784 with z107 | z107
              · have := bcT_of bc_106 (x - 54272) (by omega)
                rw [show 54272 + (x - 54272) = x by omega] at this
                exact this
              · have := bcT_of bc_107 (x - 54784) (by omega)
                rw [show 54784 + (x - 54784) = x by omega] at this
                exact this
          · rcases Nat.lt_or_ge x 56320 with z110 | z110
            · rcases Nat.lt_or_ge x 55808 with z109 | z109
              · have := bcT_of bc_108 (x - 55296) (by omega)
                rw [show 55296 + (x - 55296) = x by omega] at this
                exact this
              · have := bcT_of bc_109 (x - 55808) (by omega)
                rw [show 55808 + (x - 55808) = x by omega] at this
                exact this
            · rcases Nat.lt_or_ge x 56832 with z111 | z111
              · have := bcT_of bc_110 (x - 56320) (by omega)
                rw [show 56320 + (x - 56320) = x by omega] at this
                exact this
              · have := bcT_of bc_111 (x - 56832) (by omega)
                rw [show 56832 + (x - 56832) = x by omega] at this
                exact this
      · rcases Nat.lt_or_ge x 61440 with z120 | z120
        · rcases Nat.lt_or_ge x 59392 with z116 | z116
          · rcases Nat.lt_or_ge x 58368 with z114 | z114
            · rcases Nat.lt_or_ge x 57856 with z113 | z113
              · have := bcT_of bc_112 (x - 57344) (by omega)
                rw [show 57344 + (x - 57344) = x by omega] at this
                exact this
              · have := bcT_of bc_113 (x - 57856) (by omega)
                rw [show 57856 + (x - 57856) = x by omega] at this
                exact this
            · rcases Nat.lt_or_ge x 58880 with z115 | z115
              · have := bcT_of bc_114 (x - 58368) (by omega)
                rw [show 58368 + (x - 58368) = x by omega] at this
                exact this
              · have := bcT_of bc_115 (x - 58880) (by omega)
                rw [show 58880 + (x - 58880) = x by omega] at this
                exact this
          · rcases Nat.lt_or_ge x 60416 with z118 | z118
            · rcases Nat.lt_or_ge x 59904 with z117 | z117
              · have := bcT_of bc_116 (x - 59392) (by omega)
                rw [show 59392 + (x - 59392) = x by omega] at this
                exact this
              · have := bcT_of bc_117 (x - 59904) (by omega)
                rw [show 59904 + (x - 59904) = x by omega] at this
                exact this
            · rcases Nat.lt_or_ge x 60928 with z119 | z119
              · have := bcT_of bc_118 (x - 60416) (by omega)
                rw [show 60416 + (x - 60416) = x by omega] at this
                exact this
              · have := bcT_of bc_119 (x - 60928) (by omega)
                rw [show 60928 + (x - 60928) = x by omega] at this
                exact this
        · rcases Nat.lt_or_ge x 63488 with z124 | z124
          · rcases Nat.lt_or_ge x 62464 with z122 | z122
            · rcases Nat.lt_or_ge x 61952 with z121 | z121
              · have := bcT_of bc_120 (x - 61440) (by omega)
                rw [show 61440 + (x - 61440) = x by omega] at this
                exact this
              · have := bcT_of bc_121 (x - 61952) (by omega)
                rw [show 61952 + (x - 61952) = x by omega] at this
                exact this
            · rcases Nat.lt_or_ge x 62976 with z123 | z123
              · have := bcT_of bc_122 (x - 62464) (by omega)
                rw [show 62464 + (x - 62464) = x by omega] at this
                exact this
              · have := bcT_of bc_123 (x - 62976) (by omega)
                rw [show 62976 + (x - 62976) = x by omega] at this
                exact this
          · rcases Nat.lt_or_ge x 64512 with z126 | z126
            · rcases Nat.lt_or_ge x 64000 with z125 | z125
              · have := bcT_of bc_124 (x - 63488) (by omega)
                rw [show 63488 + (x - 63488) = x by omega] at this
                exact this
              · have := bcT_of bc_125 (x - 64000) (by omega)
                rw [show 64000 + (x - 64000) = x by omega] at this
                exact this
            · rcases Nat.lt_or_ge x 65024 with z127 | z127
              · have := bcT_of bc_126 (x - 64512) (by omega)
                rw [show 64512 + (x - 64512) = x by omega] at this
                exact this
              · have := bcT_of bc_127 (x - 65024) (by omega)
                rw [show 65024 + (x - 65024) = x by omega] at this
                exact this
theorem cnt_top {P : Nat → Bool} : ∀ {d n : Nat}, (∀ k, n ≤ k → k < n + d → P k = false) → cnt P (n + d) = cnt P n := by
  intro d
  induction d with
  | zero => intro n _; rfl
  | succ d ih =>
    intro n h
    show cnt P (n + d) + (if P (n + d) = true then 1 else 0) = _
    rw [h (n + d) (by omega) (by omega), ih (fun k h1 h2 => h k h1 (by omega))]
    rfl
theorem bc_of {np lb : Nat} (hnp : np ≤ 16) (hlb : lb < 2 ^ np) : bcE (nI lb) = nI (popc np lb) := by
  have h16 : lb < 65536 := Nat.lt_of_lt_of_le hlb (Nat.pow_le_pow_right (by decide) hnp)
  rw [bc_all h16]
  have := cnt_top (P := fun q => lb.testBit q) (d := 16 - np) (n := np) (fun k h1 _ => Nat.testBit_lt_two_pow (Nat.lt_of_lt_of_le hlb (Nat.pow_le_pow_right (by decide) h1)))
  rw [show np + (16 - np) = 16 by omega] at this
  unfold popc
  rw [this]
