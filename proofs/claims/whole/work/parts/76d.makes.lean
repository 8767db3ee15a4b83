set_option maxRecDepth 100000 in
set_option maxHeartbeats 4000000 in
theorem mk5_0 {l : Launch} {w : WD} {K : KB} {cells slots : Nat} (C : OKB l w false K cX5_init 2 RX5 1 15 363) {h0 : Nat} {fs : List Value} {T : va_W} (hlen : 0 < fs.length) (hc : cells + 1 ≤ 15) (hs : slots + 7 ≤ 363) (k : ∀ q : Nat, BW l w K (cells + 1) (slots + 7) 12 [(0, .ref h0)] [] ((h0, .inr (5, fs.set 0 (.ref q))) :: (T ++ [(q, .inl (wI w, 7, .inl (fun _ => 0)))]))) : BW l w K cells slots 4 [(0, .ref h0)] [] ((h0, .inr (5, fs)) :: T) := by
  refine b_aload_n C dX5_init_4 rfl rfl ?_
  refine b_bipush C dX5_init_5 bp_7 ?_
  refine b_newi (N := 7) C ac_int (by decide) (by decide) (by decide) hc hs dX5_init_7 (fun q => ?_)
  refine b_putr (fs := fs) (tl := T ++ [(q, .inl (wI w, 7, .inl (fun _ => 0)))]) C (by decide) ff_X5_1 rfl hlen dX5_init_9 ?_
  exact k q
set_option maxRecDepth 100000 in
set_option maxHeartbeats 4000000 in
theorem mk5_1 {l : Launch} {w : WD} {K : KB} {cells slots : Nat} (C : OKB l w false K cX5_init 2 RX5 1 15 363) {h0 : Nat} {fs : List Value} {T : va_W} (hlen : 1 < fs.length) (hc : cells + 1 ≤ 15) (hs : slots + 46 ≤ 363) (k : ∀ q : Nat, BW l w K (cells + 1) (slots + 46) 20 [(0, .ref h0)] [] ((h0, .inr (5, fs.set 1 (.ref q))) :: (T ++ [(q, .inl (wI w, 46, .inl (fun _ => 0)))]))) : BW l w K cells slots 12 [(0, .ref h0)] [] ((h0, .inr (5, fs)) :: T) := by
  refine b_aload_n C dX5_init_12 rfl rfl ?_
  refine b_bipush C dX5_init_13 bp_46 ?_
  refine b_newi (N := 46) C ac_int (by decide) (by decide) (by decide) hc hs dX5_init_15 (fun q => ?_)
  refine b_putr (fs := fs) (tl := T ++ [(q, .inl (wI w, 46, .inl (fun _ => 0)))]) C (by decide) ff_X5_13 rfl hlen dX5_init_17 ?_
  exact k q
set_option maxRecDepth 100000 in
set_option maxHeartbeats 4000000 in
theorem mk5_2 {l : Launch} {w : WD} {K : KB} {cells slots : Nat} (C : OKB l w false K cX5_init 2 RX5 1 15 363) {h0 : Nat} {fs : List Value} {T : va_W} (hlen : 2 < fs.length) (hc : cells + 1 ≤ 15) (hs : slots + 46 ≤ 363) (k : ∀ q : Nat, BW l w K (cells + 1) (slots + 46) 28 [(0, .ref h0)] [] ((h0, .inr (5, fs.set 2 (.ref q))) :: (T ++ [(q, .inl (wI w, 46, .inl (fun _ => 0)))]))) : BW l w K cells slots 20 [(0, .ref h0)] [] ((h0, .inr (5, fs)) :: T) := by
  refine b_aload_n C dX5_init_20 rfl rfl ?_
  refine b_bipush C dX5_init_21 bp_46 ?_
  refine b_newi (N := 46) C ac_int (by decide) (by decide) (by decide) hc hs dX5_init_23 (fun q => ?_)
  refine b_putr (fs := fs) (tl := T ++ [(q, .inl (wI w, 46, .inl (fun _ => 0)))]) C (by decide) ff_X5_16 rfl hlen dX5_init_25 ?_
  exact k q
set_option maxRecDepth 100000 in
set_option maxHeartbeats 4000000 in
theorem mk5_3 {l : Launch} {w : WD} {K : KB} {cells slots : Nat} (C : OKB l w false K cX5_init 2 RX5 1 15 363) {h0 : Nat} {fs : List Value} {T : va_W} (hlen : 3 < fs.length) (hc : cells + 1 ≤ 15) (hs : slots + 46 ≤ 363) (k : ∀ q : Nat, BW l w K (cells + 1) (slots + 46) 36 [(0, .ref h0)] [] ((h0, .inr (5, fs.set 3 (.ref q))) :: (T ++ [(q, .inl (wI w, 46, .inl (fun _ => 0)))]))) : BW l w K cells slots 28 [(0, .ref h0)] [] ((h0, .inr (5, fs)) :: T) := by
  refine b_aload_n C dX5_init_28 rfl rfl ?_
  refine b_bipush C dX5_init_29 bp_46 ?_
  refine b_newi (N := 46) C ac_int (by decide) (by decide) (by decide) hc hs dX5_init_31 (fun q => ?_)
  refine b_putr (fs := fs) (tl := T ++ [(q, .inl (wI w, 46, .inl (fun _ => 0)))]) C (by decide) ff_X5_19 rfl hlen dX5_init_33 ?_
  exact k q
set_option maxRecDepth 100000 in
set_option maxHeartbeats 4000000 in
theorem mk5_4 {l : Launch} {w : WD} {K : KB} {cells slots : Nat} (C : OKB l w false K cX5_init 2 RX5 1 15 363) {h0 : Nat} {fs : List Value} {T : va_W} (hlen : 5 < fs.length) (hc : cells + 1 ≤ 15) (hs : slots + 4 ≤ 363) (k : ∀ q : Nat, BW l w K (cells + 1) (slots + 4) 43 [(0, .ref h0)] [] ((h0, .inr (5, fs.set 5 (.ref q))) :: (T ++ [(q, .inl (wI w, 4, .inl (fun _ => 0)))]))) : BW l w K cells slots 36 [(0, .ref h0)] [] ((h0, .inr (5, fs)) :: T) := by
  refine b_aload_n C dX5_init_36 rfl rfl ?_
  refine b_iconst C dX5_init_37 ic_4 ?_
  refine b_newi (N := 4) C ac_int (by decide) (by decide) (by decide) hc hs dX5_init_38 (fun q => ?_)
  refine b_putr (fs := fs) (tl := T ++ [(q, .inl (wI w, 4, .inl (fun _ => 0)))]) C (by decide) ff_X5_22 rfl hlen dX5_init_40 ?_
  exact k q
set_option maxRecDepth 100000 in
set_option maxHeartbeats 4000000 in
theorem mk5_5 {l : Launch} {w : WD} {K : KB} {cells slots : Nat} (C : OKB l w false K cX5_init 2 RX5 1 15 363) {h0 : Nat} {fs : List Value} {T : va_W} (hlen : 6 < fs.length) (hc : cells + 1 ≤ 15) (hs : slots + 60 ≤ 363) (k : ∀ q : Nat, BW l w K (cells + 1) (slots + 60) 51 [(0, .ref h0)] [] ((h0, .inr (5, fs.set 6 (.ref q))) :: (T ++ [(q, .inl (wI w, 60, .inl (fun _ => 0)))]))) : BW l w K cells slots 43 [(0, .ref h0)] [] ((h0, .inr (5, fs)) :: T) := by
  refine b_aload_n C dX5_init_43 rfl rfl ?_
  refine b_bipush C dX5_init_44 bp_60 ?_
  refine b_newi (N := 60) C ac_int (by decide) (by decide) (by decide) hc hs dX5_init_46 (fun q => ?_)
  refine b_putr (fs := fs) (tl := T ++ [(q, .inl (wI w, 60, .inl (fun _ => 0)))]) C (by decide) ff_X5_25 rfl hlen dX5_init_48 ?_
  exact k q
set_option maxRecDepth 100000 in
set_option maxHeartbeats 4000000 in
theorem mk5_6 {l : Launch} {w : WD} {K : KB} {cells slots : Nat} (C : OKB l w false K cX5_init 2 RX5 1 15 363) {h0 : Nat} {fs : List Value} {T : va_W} (hlen : 13 < fs.length) (hc : cells + 1 ≤ 15) (hs : slots + 6 ≤ 363) (k : ∀ q : Nat, BW l w K (cells + 1) (slots + 6) 59 [(0, .ref h0)] [] ((h0, .inr (5, fs.set 13 (.ref q))) :: (T ++ [(q, .inl (wI w, 6, .inl (fun _ => 0)))]))) : BW l w K cells slots 51 [(0, .ref h0)] [] ((h0, .inr (5, fs)) :: T) := by
  refine b_aload_n C dX5_init_51 rfl rfl ?_
  refine b_bipush C dX5_init_52 bp_6 ?_
  refine b_newi (N := 6) C ac_int (by decide) (by decide) (by decide) hc hs dX5_init_54 (fun q => ?_)
  refine b_putr (fs := fs) (tl := T ++ [(q, .inl (wI w, 6, .inl (fun _ => 0)))]) C (by decide) ff_X5_28 rfl hlen dX5_init_56 ?_
  exact k q
set_option maxRecDepth 100000 in
set_option maxHeartbeats 4000000 in
theorem mk5_7 {l : Launch} {w : WD} {K : KB} {cells slots : Nat} (C : OKB l w false K cX5_init 2 RX5 1 15 363) {h0 : Nat} {fs : List Value} {T : va_W} (hlen : 14 < fs.length) (hc : cells + 1 ≤ 15) (hs : slots + 96 ≤ 363) (k : ∀ q : Nat, BW l w K (cells + 1) (slots + 96) 67 [(0, .ref h0)] [] ((h0, .inr (5, fs.set 14 (.ref q))) :: (T ++ [(q, .inl (wI w, 96, .inl (fun _ => 0)))]))) : BW l w K cells slots 59 [(0, .ref h0)] [] ((h0, .inr (5, fs)) :: T) := by
  refine b_aload_n C dX5_init_59 rfl rfl ?_
  refine b_bipush C dX5_init_60 bp_96 ?_
  refine b_newi (N := 96) C ac_int (by decide) (by decide) (by decide) hc hs dX5_init_62 (fun q => ?_)
  refine b_putr (fs := fs) (tl := T ++ [(q, .inl (wI w, 96, .inl (fun _ => 0)))]) C (by decide) ff_X5_31 rfl hlen dX5_init_64 ?_
  exact k q
set_option maxRecDepth 100000 in
set_option maxHeartbeats 4000000 in
theorem mk5_8 {l : Launch} {w : WD} {K : KB} {cells slots : Nat} (C : OKB l w false K cX5_init 2 RX5 1 15 363) {h0 : Nat} {fs : List Value} {T : va_W} (hlen : 18 < fs.length) (hc : cells + 1 ≤ 15) (hs : slots + 7 ≤ 363) (k : ∀ q : Nat, BW l w K (cells + 1) (slots + 7) 111 [(0, .ref h0)] [] ((h0, .inr (5, fs.set 18 (.ref q))) :: (T ++ [(q, .inl (wC w, 7, .inl begI))]))) : BW l w K cells slots 67 [(0, .ref h0)] [] ((h0, .inr (5, fs)) :: T) := by
  refine b_aload_n C dX5_init_67 rfl rfl ?_
  refine b_bipush C dX5_init_68 bp_7 ?_
  refine b_newc (N := 7) C ac_char (by decide) (by decide) (by decide) hc hs dX5_init_70 (fun q => ?_)
  refine b_dup C dX5_init_72 rfl ?_
  refine b_iconst C dX5_init_73 ic_0 ?_
  refine b_bipush C dX5_init_74 bp_101 ?_
  refine b_casl (w0 := (h0, .inr (5, fs)) :: T) (j := 0) C rfl (by unfold ix; decide) (by decide) dX5_init_76 ?_
  refine b_dup C dX5_init_77 rfl ?_
  refine b_iconst C dX5_init_78 ic_1 ?_
  refine b_bipush C dX5_init_79 bp_115 ?_
  refine b_casl (w0 := (h0, .inr (5, fs)) :: T) (j := 1) C rfl (by unfold ix; decide) (by decide) dX5_init_81 ?_
  refine b_dup C dX5_init_82 rfl ?_
  refine b_iconst C dX5_init_83 ic_2 ?_
  refine b_bipush C dX5_init_84 bp_119 ?_
  refine b_casl (w0 := (h0, .inr (5, fs)) :: T) (j := 2) C rfl (by unfold ix; decide) (by decide) dX5_init_86 ?_
  refine b_dup C dX5_init_87 rfl ?_
  refine b_iconst C dX5_init_88 ic_3 ?_
  refine b_bipush C dX5_init_89 bp_98 ?_
  refine b_casl (w0 := (h0, .inr (5, fs)) :: T) (j := 3) C rfl (by unfold ix; decide) (by decide) dX5_init_91 ?_
  refine b_dup C dX5_init_92 rfl ?_
  refine b_iconst C dX5_init_93 ic_4 ?_
  refine b_bipush C dX5_init_94 bp_104 ?_
  refine b_casl (w0 := (h0, .inr (5, fs)) :: T) (j := 4) C rfl (by unfold ix; decide) (by decide) dX5_init_96 ?_
  refine b_dup C dX5_init_97 rfl ?_
  refine b_iconst C dX5_init_98 ic_5 ?_
  refine b_bipush C dX5_init_99 bp_99 ?_
  refine b_casl (w0 := (h0, .inr (5, fs)) :: T) (j := 5) C rfl (by unfold ix; decide) (by decide) dX5_init_101 ?_
  refine b_dup C dX5_init_102 rfl ?_
  refine b_bipush C dX5_init_103 bp_6 ?_
  refine b_bipush C dX5_init_105 bp_100 ?_
  refine b_casl (w0 := (h0, .inr (5, fs)) :: T) (j := 6) C rfl (by unfold ix; decide) (by decide) dX5_init_107 ?_
  refine b_putr (fs := fs) (tl := T ++ [(q, .inl (wC w, 7, .inl (upd (upd (upd (upd (upd (upd (upd (fun _ => 0) 0 101) 1 115) 2 119) 3 98) 4 104) 5 99) 6 100)))]) C (by decide) ff_X5_34 rfl hlen dX5_init_108 ?_
  exact k q
set_option maxRecDepth 100000 in
set_option maxHeartbeats 4000000 in
theorem mk5_9 {l : Launch} {w : WD} {K : KB} {cells slots : Nat} (C : OKB l w false K cX5_init 2 RX5 1 15 363) {h0 : Nat} {fs : List Value} {T : va_W} (hlen : 19 < fs.length) (hc : cells + 1 ≤ 15) (hs : slots + 6 ≤ 363) (k : ∀ q : Nat, BW l w K (cells + 1) (slots + 6) 149 [(0, .ref h0)] [] ((h0, .inr (5, fs.set 19 (.ref q))) :: (T ++ [(q, .inl (wC w, 6, .inl eatI))]))) : BW l w K cells slots 111 [(0, .ref h0)] [] ((h0, .inr (5, fs)) :: T) := by
  refine b_aload_n C dX5_init_111 rfl rfl ?_
  refine b_bipush C dX5_init_112 bp_6 ?_
  refine b_newc (N := 6) C ac_char (by decide) (by decide) (by decide) hc hs dX5_init_114 (fun q => ?_)
  refine b_dup C dX5_init_116 rfl ?_
  refine b_iconst C dX5_init_117 ic_0 ?_
  refine b_bipush C dX5_init_118 bp_101 ?_
  refine b_casl (w0 := (h0, .inr (5, fs)) :: T) (j := 0) C rfl (by unfold ix; decide) (by decide) dX5_init_120 ?_
  refine b_dup C dX5_init_121 rfl ?_
  refine b_iconst C dX5_init_122 ic_1 ?_
  refine b_bipush C dX5_init_123 bp_102 ?_
  refine b_casl (w0 := (h0, .inr (5, fs)) :: T) (j := 1) C rfl (by unfold ix; decide) (by decide) dX5_init_125 ?_
  refine b_dup C dX5_init_126 rfl ?_
  refine b_iconst C dX5_init_127 ic_2 ?_
  refine b_bipush C dX5_init_128 bp_99 ?_
  refine b_casl (w0 := (h0, .inr (5, fs)) :: T) (j := 2) C rfl (by unfold ix; decide) (by decide) dX5_init_130 ?_
  refine b_dup C dX5_init_131 rfl ?_
  refine b_iconst C dX5_init_132 ic_3 ?_
  refine b_bipush C dX5_init_133 bp_112 ?_
  refine b_casl (w0 := (h0, .inr (5, fs)) :: T) (j := 3) C rfl (by unfold ix; decide) (by decide) dX5_init_135 ?_
  refine b_dup C dX5_init_136 rfl ?_
  refine b_iconst C dX5_init_137 ic_4 ?_
  refine b_bipush C dX5_init_138 bp_104 ?_
  refine b_casl (w0 := (h0, .inr (5, fs)) :: T) (j := 4) C rfl (by unfold ix; decide) (by decide) dX5_init_140 ?_
  refine b_dup C dX5_init_141 rfl ?_
  refine b_iconst C dX5_init_142 ic_5 ?_
  refine b_bipush C dX5_init_143 bp_97 ?_
  refine b_casl (w0 := (h0, .inr (5, fs)) :: T) (j := 5) C rfl (by unfold ix; decide) (by decide) dX5_init_145 ?_
  refine b_putr (fs := fs) (tl := T ++ [(q, .inl (wC w, 6, .inl (upd (upd (upd (upd (upd (upd (fun _ => 0) 0 101) 1 102) 2 99) 3 112) 4 104) 5 97)))]) C (by decide) ff_X5_38 rfl hlen dX5_init_146 ?_
  exact k q
set_option maxRecDepth 100000 in
set_option maxHeartbeats 4000000 in
theorem mk5_10 {l : Launch} {w : WD} {K : KB} {cells slots : Nat} (C : OKB l w false K cX5_init 2 RX5 1 15 363) {h0 : Nat} {fs : List Value} {T : va_W} (hlen : 20 < fs.length) (hc : cells + 1 ≤ 15) (hs : slots + 6 ≤ 363) (k : ∀ q : Nat, BW l w K (cells + 1) (slots + 6) 187 [(0, .ref h0)] [] ((h0, .inr (5, fs.set 20 (.ref q))) :: (T ++ [(q, .inl (wC w, 6, .inl houI))]))) : BW l w K cells slots 149 [(0, .ref h0)] [] ((h0, .inr (5, fs)) :: T) := by
  refine b_aload_n C dX5_init_149 rfl rfl ?_
  refine b_bipush C dX5_init_150 bp_6 ?_
  refine b_newc (N := 6) C ac_char (by decide) (by decide) (by decide) hc hs dX5_init_152 (fun q => ?_)
  refine b_dup C dX5_init_154 rfl ?_
  refine b_iconst C dX5_init_155 ic_0 ?_
  refine b_bipush C dX5_init_156 bp_111 ?_
  refine b_casl (w0 := (h0, .inr (5, fs)) :: T) (j := 0) C rfl (by unfold ix; decide) (by decide) dX5_init_158 ?_
  refine b_dup C dX5_init_159 rfl ?_
  refine b_iconst C dX5_init_160 ic_1 ?_
  refine b_bipush C dX5_init_161 bp_110 ?_
  refine b_casl (w0 := (h0, .inr (5, fs)) :: T) (j := 1) C rfl (by unfold ix; decide) (by decide) dX5_init_163 ?_
  refine b_dup C dX5_init_164 rfl ?_
  refine b_iconst C dX5_init_165 ic_2 ?_
  refine b_bipush C dX5_init_166 bp_109 ?_
  refine b_casl (w0 := (h0, .inr (5, fs)) :: T) (j := 2) C rfl (by unfold ix; decide) (by decide) dX5_init_168 ?_
  refine b_dup C dX5_init_169 rfl ?_
  refine b_iconst C dX5_init_170 ic_3 ?_
  refine b_bipush C dX5_init_171 bp_116 ?_
  refine b_casl (w0 := (h0, .inr (5, fs)) :: T) (j := 3) C rfl (by unfold ix; decide) (by decide) dX5_init_173 ?_
  refine b_dup C dX5_init_174 rfl ?_
  refine b_iconst C dX5_init_175 ic_4 ?_
  refine b_bipush C dX5_init_176 bp_98 ?_
  refine b_casl (w0 := (h0, .inr (5, fs)) :: T) (j := 4) C rfl (by unfold ix; decide) (by decide) dX5_init_178 ?_
  refine b_dup C dX5_init_179 rfl ?_
  refine b_iconst C dX5_init_180 ic_5 ?_
  refine b_bipush C dX5_init_181 bp_115 ?_
  refine b_casl (w0 := (h0, .inr (5, fs)) :: T) (j := 5) C rfl (by unfold ix; decide) (by decide) dX5_init_183 ?_
  refine b_putr (fs := fs) (tl := T ++ [(q, .inl (wC w, 6, .inl (upd (upd (upd (upd (upd (upd (fun _ => 0) 0 111) 1 110) 2 109) 3 116) 4 98) 5 115)))]) C (by decide) ff_X5_41 rfl hlen dX5_init_184 ?_
  exact k q
set_option maxRecDepth 100000 in
set_option maxHeartbeats 4000000 in
theorem mk5_11 {l : Launch} {w : WD} {K : KB} {cells slots : Nat} (C : OKB l w false K cX5_init 2 RX5 1 15 363) {h0 : Nat} {fs : List Value} {T : va_W} (hlen : 21 < fs.length) (hc : cells + 1 ≤ 15) (hs : slots + 2 ≤ 363) (k : ∀ q : Nat, BW l w K (cells + 1) (slots + 2) 204 [(0, .ref h0)] [] ((h0, .inr (5, fs.set 21 (.ref q))) :: (T ++ [(q, .inl (wC w, 2, .inl opnI))]))) : BW l w K cells slots 187 [(0, .ref h0)] [] ((h0, .inr (5, fs)) :: T) := by
  refine b_aload_n C dX5_init_187 rfl rfl ?_
  refine b_iconst C dX5_init_188 ic_2 ?_
  refine b_newc (N := 2) C ac_char (by decide) (by decide) (by decide) hc hs dX5_init_189 (fun q => ?_)
  refine b_dup C dX5_init_191 rfl ?_
  refine b_iconst C dX5_init_192 ic_0 ?_
  refine b_bipush C dX5_init_193 bp_120 ?_
  refine b_casl (w0 := (h0, .inr (5, fs)) :: T) (j := 0) C rfl (by unfold ix; decide) (by decide) dX5_init_195 ?_
  refine b_dup C dX5_init_196 rfl ?_
  refine b_iconst C dX5_init_197 ic_1 ?_
  refine b_bipush C dX5_init_198 bp_111 ?_
  refine b_casl (w0 := (h0, .inr (5, fs)) :: T) (j := 1) C rfl (by unfold ix; decide) (by decide) dX5_init_200 ?_
  refine b_putr (fs := fs) (tl := T ++ [(q, .inl (wC w, 2, .inl (upd (upd (fun _ => 0) 0 120) 1 111)))]) C (by decide) ff_X5_44 rfl hlen dX5_init_201 ?_
  exact k q
set_option maxRecDepth 100000 in
set_option maxHeartbeats 4000000 in
theorem mk5_12 {l : Launch} {w : WD} {K : KB} {cells slots : Nat} (C : OKB l w false K cX5_init 2 RX5 1 15 363) {h0 : Nat} {fs : List Value} {T : va_W} (hlen : 23 < fs.length) (hc : cells + 1 ≤ 15) (hs : slots + 7 ≤ 363) (k : ∀ q : Nat, BW l w K (cells + 1) (slots + 7) 212 [(0, .ref h0)] [] ((h0, .inr (5, fs.set 23 (.ref q))) :: (T ++ [(q, .inl (wI w, 7, .inl (fun _ => 0)))]))) : BW l w K cells slots 204 [(0, .ref h0)] [] ((h0, .inr (5, fs)) :: T) := by
  refine b_aload_n C dX5_init_204 rfl rfl ?_
  refine b_bipush C dX5_init_205 bp_7 ?_
  refine b_newi (N := 7) C ac_int (by decide) (by decide) (by decide) hc hs dX5_init_207 (fun q => ?_)
  refine b_putr (fs := fs) (tl := T ++ [(q, .inl (wI w, 7, .inl (fun _ => 0)))]) C (by decide) ff_X5_47 rfl hlen dX5_init_209 ?_
  exact k q
set_option maxRecDepth 100000 in
set_option maxHeartbeats 4000000 in
theorem mk5_13 {l : Launch} {w : WD} {K : KB} {cells slots : Nat} (C : OKB l w false K cX5_init 2 RX5 1 15 363) {h0 : Nat} {fs : List Value} {T : va_W} (hlen : 25 < fs.length) (hc : cells + 1 ≤ 15) (hs : slots + 4 ≤ 363) (k : ∀ q : Nat, BW l w K (cells + 1) (slots + 4) 219 [(0, .ref h0)] [] ((h0, .inr (5, fs.set 25 (.ref q))) :: (T ++ [(q, .inl (wI w, 4, .inl (fun _ => 0)))]))) : BW l w K cells slots 212 [(0, .ref h0)] [] ((h0, .inr (5, fs)) :: T) := by
  refine b_aload_n C dX5_init_212 rfl rfl ?_
  refine b_iconst C dX5_init_213 ic_4 ?_
  refine b_newi (N := 4) C ac_int (by decide) (by decide) (by decide) hc hs dX5_init_214 (fun q => ?_)
  refine b_putr (fs := fs) (tl := T ++ [(q, .inl (wI w, 4, .inl (fun _ => 0)))]) C (by decide) ff_X5_50 rfl hlen dX5_init_216 ?_
  exact k q
set_option maxRecDepth 100000 in
set_option maxHeartbeats 4000000 in
theorem mk5_14 {l : Launch} {w : WD} {K : KB} {cells slots : Nat} (C : OKB l w false K cX5_init 2 RX5 1 15 363) {h0 : Nat} {fs : List Value} {T : va_W} (hlen : 26 < fs.length) (hc : cells + 1 ≤ 15) (hs : slots + 20 ≤ 363) (k : ∀ q : Nat, BW l w K (cells + 1) (slots + 20) 227 [(0, .ref h0)] [] ((h0, .inr (5, fs.set 26 (.ref q))) :: (T ++ [(q, .inl (wI w, 20, .inl (fun _ => 0)))]))) : BW l w K cells slots 219 [(0, .ref h0)] [] ((h0, .inr (5, fs)) :: T) := by
  refine b_aload_n C dX5_init_219 rfl rfl ?_
  refine b_bipush C dX5_init_220 bp_20 ?_
  refine b_newi (N := 20) C ac_int (by decide) (by decide) (by decide) hc hs dX5_init_222 (fun q => ?_)
  refine b_putr (fs := fs) (tl := T ++ [(q, .inl (wI w, 20, .inl (fun _ => 0)))]) C (by decide) ff_X5_53 rfl hlen dX5_init_224 ?_
  exact k q
set_option maxRecDepth 100000 in
set_option maxHeartbeats 4000000 in
theorem mk5_b {l : Launch} {w : WD} {K : KB} {cells slots : Nat} (C : OKB l w false K cX5_init 2 RX5 1 15 363) {h0 : Nat} {q1 q2 : Nat} {e1 : va_E} {fs : List Value} {T : va_W} (hf : fs[1]? = some (.ref q2)) (k : BW l w K cells slots 281 [(1, .int 7), (0, .ref h0)] [] ((h0, .inr (5, fs)) :: (q1, e1) :: (q2, .inl (wI w, 46, .inl nowI)) :: T)) : BW l w K cells slots 227 [(0, .ref h0)] [] ((h0, .inr (5, fs)) :: (q1, e1) :: (q2, .inl (wI w, 46, .inl (fun _ => 0))) :: T) := by
  refine b_aload_n C dX5_init_227 rfl rfl ?_
  refine b_get (fs := fs) (tl := (q1, e1) :: (q2, .inl (wI w, 46, .inl (fun _ => 0))) :: T) (v := .ref q2) C fl_X5_13 fs_X5_13 rfl hf dX5_init_228 ?_
  refine b_iconst C dX5_init_231 ic_2 ?_
  refine b_bipush C dX5_init_232 bp_6 ?_
  refine b_ias (p0 := 2) (j := 2) C rfl (by unfold ix; decide) dX5_init_234 ?_
  refine b_re (ws' := ((h0, .inr (5, fs)) :: (q1, e1) :: (q2, .inl (wI w, 46, .inl (upd (fun _ => 0) 2 6))) :: T)) rfl ?_
  refine b_aload_n C dX5_init_235 rfl rfl ?_
  refine b_get (fs := fs) (tl := (q1, e1) :: (q2, .inl (wI w, 46, .inl (upd (fun _ => 0) 2 6))) :: T) (v := .ref q2) C fl_X5_13 fs_X5_13 rfl hf dX5_init_236 ?_
  refine b_iconst C dX5_init_239 ic_4 ?_
  refine b_iconst C dX5_init_240 ic_2 ?_
  refine b_ias (p0 := 2) (j := 4) C rfl (by unfold ix; decide) dX5_init_241 ?_
  refine b_re (ws' := ((h0, .inr (5, fs)) :: (q1, e1) :: (q2, .inl (wI w, 46, .inl (upd (upd (fun _ => 0) 2 6) 4 2))) :: T)) rfl ?_
  refine b_aload_n C dX5_init_242 rfl rfl ?_
  refine b_get (fs := fs) (tl := (q1, e1) :: (q2, .inl (wI w, 46, .inl (upd (upd (fun _ => 0) 2 6) 4 2))) :: T) (v := .ref q2) C fl_X5_13 fs_X5_13 rfl hf dX5_init_243 ?_
  refine b_iconst C dX5_init_246 ic_5 ?_
  refine b_iconst C dX5_init_247 ic_1 ?_
  refine b_ias (p0 := 2) (j := 5) C rfl (by unfold ix; decide) dX5_init_248 ?_
  refine b_re (ws' := ((h0, .inr (5, fs)) :: (q1, e1) :: (q2, .inl (wI w, 46, .inl (upd (upd (upd (fun _ => 0) 2 6) 4 2) 5 1))) :: T)) rfl ?_
  refine b_aload_n C dX5_init_249 rfl rfl ?_
  refine b_get (fs := fs) (tl := (q1, e1) :: (q2, .inl (wI w, 46, .inl (upd (upd (upd (fun _ => 0) 2 6) 4 2) 5 1))) :: T) (v := .ref q2) C fl_X5_13 fs_X5_13 rfl hf dX5_init_250 ?_
  refine b_bipush C dX5_init_253 bp_6 ?_
  refine b_iconst C dX5_init_255 ic_3 ?_
  refine b_ias (p0 := 2) (j := 6) C rfl (by unfold ix; decide) dX5_init_256 ?_
  refine b_re (ws' := ((h0, .inr (5, fs)) :: (q1, e1) :: (q2, .inl (wI w, 46, .inl (upd (upd (upd (upd (fun _ => 0) 2 6) 4 2) 5 1) 6 3))) :: T)) rfl ?_
  refine b_iconst C dX5_init_257 ic_0 ?_
  refine b_istore_n (lv' := [(1, .int 0), (0, .ref h0)]) C dX5_init_258 rfl (by decide) rfl ?_
  refine b_iload_n C dX5_init_259 rfl rfl ?_
  refine b_bipush C dX5_init_260 bp_7 ?_
  refine b_icmp_ge (tgt := 281) C dX5_init_262 rfl (fun c => absurd c (by decide)) (fun _ => ?_)
  refine b_aload_n C dX5_init_265 rfl rfl ?_
  refine b_get (fs := fs) (tl := (q1, e1) :: (q2, .inl (wI w, 46, .inl (upd (upd (upd (upd (fun _ => 0) 2 6) 4 2) 5 1) 6 3))) :: T) (v := .ref q2) C fl_X5_13 fs_X5_13 rfl hf dX5_init_266 ?_
  refine b_bipush C dX5_init_269 bp_20 ?_
  refine b_iload_n C dX5_init_271 rfl rfl ?_
  refine b_iadd C dX5_init_272 ?_
  refine b_val (y := 20) (by decide) ?_
  refine b_iconst C dX5_init_273 ic_1 ?_
  refine b_ias (p0 := 2) (j := 20) C rfl (by unfold ix; decide) dX5_init_274 ?_
  refine b_re (ws' := ((h0, .inr (5, fs)) :: (q1, e1) :: (q2, .inl (wI w, 46, .inl (upd (upd (upd (upd (upd (fun _ => 0) 2 6) 4 2) 5 1) 6 3) 20 1))) :: T)) rfl ?_
  refine b_iinc (v := 1) (lv' := [(1, .int 1), (0, .ref h0)]) C dX5_init_275 (by decide) rfl (by decide) rfl ?_
  refine b_goto (tgt := 259) C dX5_init_278 rfl ?_
  refine b_iload_n C dX5_init_259 rfl rfl ?_
  refine b_bipush C dX5_init_260 bp_7 ?_
  refine b_icmp_ge (tgt := 281) C dX5_init_262 rfl (fun c => absurd c (by decide)) (fun _ => ?_)
  refine b_aload_n C dX5_init_265 rfl rfl ?_
  refine b_get (fs := fs) (tl := (q1, e1) :: (q2, .inl (wI w, 46, .inl (upd (upd (upd (upd (upd (fun _ => 0) 2 6) 4 2) 5 1) 6 3) 20 1))) :: T) (v := .ref q2) C fl_X5_13 fs_X5_13 rfl hf dX5_init_266 ?_
  refine b_bipush C dX5_init_269 bp_20 ?_
  refine b_iload_n C dX5_init_271 rfl rfl ?_
  refine b_iadd C dX5_init_272 ?_
  refine b_val (y := 21) (by decide) ?_
  refine b_iconst C dX5_init_273 ic_1 ?_
  refine b_ias (p0 := 2) (j := 21) C rfl (by unfold ix; decide) dX5_init_274 ?_
  refine b_re (ws' := ((h0, .inr (5, fs)) :: (q1, e1) :: (q2, .inl (wI w, 46, .inl (upd (upd (upd (upd (upd (upd (fun _ => 0) 2 6) 4 2) 5 1) 6 3) 20 1) 21 1))) :: T)) rfl ?_
  refine b_iinc (v := 2) (lv' := [(1, .int 2), (0, .ref h0)]) C dX5_init_275 (by decide) rfl (by decide) rfl ?_
  refine b_goto (tgt := 259) C dX5_init_278 rfl ?_
  refine b_iload_n C dX5_init_259 rfl rfl ?_
  refine b_bipush C dX5_init_260 bp_7 ?_
  refine b_icmp_ge (tgt := 281) C dX5_init_262 rfl (fun c => absurd c (by decide)) (fun _ => ?_)
  refine b_aload_n C dX5_init_265 rfl rfl ?_
  refine b_get (fs := fs) (tl := (q1, e1) :: (q2, .inl (wI w, 46, .inl (upd (upd (upd (upd (upd (upd (fun _ => 0) 2 6) 4 2) 5 1) 6 3) 20 1) 21 1))) :: T) (v := .ref q2) C fl_X5_13 fs_X5_13 rfl hf dX5_init_266 ?_
  refine b_bipush C dX5_init_269 bp_20 ?_
  refine b_iload_n C dX5_init_271 rfl rfl ?_
  refine b_iadd C dX5_init_272 ?_
  refine b_val (y := 22) (by decide) ?_
  refine b_iconst C dX5_init_273 ic_1 ?_
  refine b_ias (p0 := 2) (j := 22) C rfl (by unfold ix; decide) dX5_init_274 ?_
  refine b_re (ws' := ((h0, .inr (5, fs)) :: (q1, e1) :: (q2, .inl (wI w, 46, .inl (upd (upd (upd (upd (upd (upd (upd (fun _ => 0) 2 6) 4 2) 5 1) 6 3) 20 1) 21 1) 22 1))) :: T)) rfl ?_
  refine b_iinc (v := 3) (lv' := [(1, .int 3), (0, .ref h0)]) C dX5_init_275 (by decide) rfl (by decide) rfl ?_
  refine b_goto (tgt := 259) C dX5_init_278 rfl ?_
  refine b_iload_n C dX5_init_259 rfl rfl ?_
  refine b_bipush C dX5_init_260 bp_7 ?_
  refine b_icmp_ge (tgt := 281) C dX5_init_262 rfl (fun c => absurd c (by decide)) (fun _ => ?_)
  refine b_aload_n C dX5_init_265 rfl rfl ?_
  refine b_get (fs := fs) (tl := (q1, e1) :: (q2, .inl (wI w, 46, .inl (upd (upd (upd (upd (upd (upd (upd (fun _ => 0) 2 6) 4 2) 5 1) 6 3) 20 1) 21 1) 22 1))) :: T) (v := .ref q2) C fl_X5_13 fs_X5_13 rfl hf dX5_init_266 ?_
  refine b_bipush C dX5_init_269 bp_20 ?_
  refine b_iload_n C dX5_init_271 rfl rfl ?_
  refine b_iadd C dX5_init_272 ?_
  refine b_val (y := 23) (by decide) ?_
  refine b_iconst C dX5_init_273 ic_1 ?_
  refine b_ias (p0 := 2) (j := 23) C rfl (by unfold ix; decide) dX5_init_274 ?_
  refine b_re (ws' := ((h0, .inr (5, fs)) :: (q1, e1) :: (q2, .inl (wI w, 46, .inl (upd (upd (upd (upd (upd (upd (upd (upd (fun _ => 0) 2 6) 4 2) 5 1) 6 3) 20 1) 21 1) 22 1) 23 1))) :: T)) rfl ?_
  refine b_iinc (v := 4) (lv' := [(1, .int 4), (0, .ref h0)]) C dX5_init_275 (by decide) rfl (by decide) rfl ?_
  refine b_goto (tgt := 259) C dX5_init_278 rfl ?_
  refine b_iload_n C dX5_init_259 rfl rfl ?_
  refine b_bipush C dX5_init_260 bp_7 ?_
  refine b_icmp_ge (tgt := 281) C dX5_init_262 rfl (fun c => absurd c (by decide)) (fun _ => ?_)
  refine b_aload_n C dX5_init_265 rfl rfl ?_
  refine b_get (fs := fs) (tl := (q1, e1) :: (q2, .inl (wI w, 46, .inl (upd (upd (upd (upd (upd (upd (upd (upd (fun _ => 0) 2 6) 4 2) 5 1) 6 3) 20 1) 21 1) 22 1) 23 1))) :: T) (v := .ref q2) C fl_X5_13 fs_X5_13 rfl hf dX5_init_266 ?_
  refine b_bipush C dX5_init_269 bp_20 ?_
  refine b_iload_n C dX5_init_271 rfl rfl ?_
  refine b_iadd C dX5_init_272 ?_
  refine b_val (y := 24) (by decide) ?_
  refine b_iconst C dX5_init_273 ic_1 ?_
  refine b_ias (p0 := 2) (j := 24) C rfl (by unfold ix; decide) dX5_init_274 ?_
  refine b_re (ws' := ((h0, .inr (5, fs)) :: (q1, e1) :: (q2, .inl (wI w, 46, .inl (upd (upd (upd (upd (upd (upd (upd (upd (upd (fun _ => 0) 2 6) 4 2) 5 1) 6 3) 20 1) 21 1) 22 1) 23 1) 24 1))) :: T)) rfl ?_
  refine b_iinc (v := 5) (lv' := [(1, .int 5), (0, .ref h0)]) C dX5_init_275 (by decide) rfl (by decide) rfl ?_
  refine b_goto (tgt := 259) C dX5_init_278 rfl ?_
  refine b_iload_n C dX5_init_259 rfl rfl ?_
  refine b_bipush C dX5_init_260 bp_7 ?_
  refine b_icmp_ge (tgt := 281) C dX5_init_262 rfl (fun c => absurd c (by decide)) (fun _ => ?_)
  refine b_aload_n C dX5_init_265 rfl rfl ?_
  refine b_get (fs := fs) (tl := (q1, e1) :: (q2, .inl (wI w, 46, .inl (upd (upd (upd (upd (upd (upd (upd (upd (upd (fun _ => 0) 2 6) 4 2) 5 1) 6 3) 20 1) 21 1) 22 1) 23 1) 24 1))) :: T) (v := .ref q2) C fl_X5_13 fs_X5_13 rfl hf dX5_init_266 ?_
  refine b_bipush C dX5_init_269 bp_20 ?_
  refine b_iload_n C dX5_init_271 rfl rfl ?_
  refine b_iadd C dX5_init_272 ?_
  refine b_val (y := 25) (by decide) ?_
  refine b_iconst C dX5_init_273 ic_1 ?_
  refine b_ias (p0 := 2) (j := 25) C rfl (by unfold ix; decide) dX5_init_274 ?_
  refine b_re (ws' := ((h0, .inr (5, fs)) :: (q1, e1) :: (q2, .inl (wI w, 46, .inl (upd (upd (upd (upd (upd (upd (upd (upd (upd (upd (fun _ => 0) 2 6) 4 2) 5 1) 6 3) 20 1) 21 1) 22 1) 23 1) 24 1) 25 1))) :: T)) rfl ?_
  refine b_iinc (v := 6) (lv' := [(1, .int 6), (0, .ref h0)]) C dX5_init_275 (by decide) rfl (by decide) rfl ?_
  refine b_goto (tgt := 259) C dX5_init_278 rfl ?_
  refine b_iload_n C dX5_init_259 rfl rfl ?_
  refine b_bipush C dX5_init_260 bp_7 ?_
  refine b_icmp_ge (tgt := 281) C dX5_init_262 rfl (fun c => absurd c (by decide)) (fun _ => ?_)
  refine b_aload_n C dX5_init_265 rfl rfl ?_
  refine b_get (fs := fs) (tl := (q1, e1) :: (q2, .inl (wI w, 46, .inl (upd (upd (upd (upd (upd (upd (upd (upd (upd (upd (fun _ => 0) 2 6) 4 2) 5 1) 6 3) 20 1) 21 1) 22 1) 23 1) 24 1) 25 1))) :: T) (v := .ref q2) C fl_X5_13 fs_X5_13 rfl hf dX5_init_266 ?_
  refine b_bipush C dX5_init_269 bp_20 ?_
  refine b_iload_n C dX5_init_271 rfl rfl ?_
  refine b_iadd C dX5_init_272 ?_
  refine b_val (y := 26) (by decide) ?_
  refine b_iconst C dX5_init_273 ic_1 ?_
  refine b_ias (p0 := 2) (j := 26) C rfl (by unfold ix; decide) dX5_init_274 ?_
  refine b_re (ws' := ((h0, .inr (5, fs)) :: (q1, e1) :: (q2, .inl (wI w, 46, .inl (upd (upd (upd (upd (upd (upd (upd (upd (upd (upd (upd (fun _ => 0) 2 6) 4 2) 5 1) 6 3) 20 1) 21 1) 22 1) 23 1) 24 1) 25 1) 26 1))) :: T)) rfl ?_
  refine b_iinc (v := 7) (lv' := [(1, .int 7), (0, .ref h0)]) C dX5_init_275 (by decide) rfl (by decide) rfl ?_
  refine b_goto (tgt := 259) C dX5_init_278 rfl ?_
  refine b_iload_n C dX5_init_259 rfl rfl ?_
  refine b_bipush C dX5_init_260 bp_7 ?_
  refine b_icmp_ge (tgt := 281) C dX5_init_262 rfl (fun _ => ?_) (fun c => absurd (by decide) c)
  exact k
set_option maxRecDepth 100000 in
set_option maxHeartbeats 4000000 in
theorem ct_X5_init (l : Launch) (w : WD) : CtB l w false yX5_init cX5_init 2 1 15 363 (.inr (5, [.null, .null, .null, .null, .int 0, .null, .null, .int 0, .int 0, .int 0, .int 0, .int 0, .int 0, .null, .null, .int 0, .int 0, .int 0, .null, .null, .null, .null, .int 0, .null, .int 0, .null, .null, .int 0])) (FM5 w) := by
  refine CtB.mk (by decide) (by decide) rfl (fun h0 K C r => ?_)
  refine b_aload_n C dX5_init_0 rfl rfl ?_
  refine b_obj C oi_X5_7 oi_m oi_c (by decide) dX5_init_1 (Nat.le_of_ble_eq_true rfl) ?_
  refine mk5_0 C (Nat.le_of_ble_eq_true rfl) (by decide) (by decide) (fun q1 => ?_)
  refine mk5_1 C (Nat.le_of_ble_eq_true rfl) (by decide) (by decide) (fun q2 => ?_)
  refine mk5_2 C (Nat.le_of_ble_eq_true rfl) (by decide) (by decide) (fun q3 => ?_)
  refine mk5_3 C (Nat.le_of_ble_eq_true rfl) (by decide) (by decide) (fun q4 => ?_)
  refine mk5_4 C (Nat.le_of_ble_eq_true rfl) (by decide) (by decide) (fun q5 => ?_)
  refine mk5_5 C (Nat.le_of_ble_eq_true rfl) (by decide) (by decide) (fun q6 => ?_)
  refine mk5_6 C (Nat.le_of_ble_eq_true rfl) (by decide) (by decide) (fun q7 => ?_)
  refine mk5_7 C (Nat.le_of_ble_eq_true rfl) (by decide) (by decide) (fun q8 => ?_)
  refine mk5_8 C (Nat.le_of_ble_eq_true rfl) (by decide) (by decide) (fun q9 => ?_)
  refine mk5_9 C (Nat.le_of_ble_eq_true rfl) (by decide) (by decide) (fun q10 => ?_)
  refine mk5_10 C (Nat.le_of_ble_eq_true rfl) (by decide) (by decide) (fun q11 => ?_)
  refine mk5_11 C (Nat.le_of_ble_eq_true rfl) (by decide) (by decide) (fun q12 => ?_)
  refine mk5_12 C (Nat.le_of_ble_eq_true rfl) (by decide) (by decide) (fun q13 => ?_)
  refine mk5_13 C (Nat.le_of_ble_eq_true rfl) (by decide) (by decide) (fun q14 => ?_)
  refine mk5_14 C (Nat.le_of_ble_eq_true rfl) (by decide) (by decide) (fun q15 => ?_)
  refine b_re (ws' := ((h0, .inr (5, [.ref q1, .ref q2, .ref q3, .ref q4, .int 0, .ref q5, .ref q6, .int 0, .int 0, .int 0, .int 0, .int 0, .int 0, .ref q7, .ref q8, .int 0, .int 0, .int 0, .ref q9, .ref q10, .ref q11, .ref q12, .int 0, .ref q13, .int 0, .ref q14, .ref q15, .int 0])) :: [(q1, .inl (wI w, 7, .inl (fun _ => 0))), (q2, .inl (wI w, 46, .inl (fun _ => 0))), (q3, .inl (wI w, 46, .inl (fun _ => 0))), (q4, .inl (wI w, 46, .inl (fun _ => 0))), (q5, .inl (wI w, 4, .inl (fun _ => 0))), (q6, .inl (wI w, 60, .inl (fun _ => 0))), (q7, .inl (wI w, 6, .inl (fun _ => 0))), (q8, .inl (wI w, 96, .inl (fun _ => 0))), (q9, .inl (wC w, 7, .inl begI)), (q10, .inl (wC w, 6, .inl eatI)), (q11, .inl (wC w, 6, .inl houI)), (q12, .inl (wC w, 2, .inl opnI)), (q13, .inl (wI w, 7, .inl (fun _ => 0))), (q14, .inl (wI w, 4, .inl (fun _ => 0))), (q15, .inl (wI w, 20, .inl (fun _ => 0)))])) rfl ?_
  refine mk5_b C rfl ?_
  exact b_vret (fun k => [h0, q1, q2, q3, q4, q5, q6, q7, q8, q9, q10, q11, q12, q13, q14, q15].getD k 0) C r rfl rfl dX5_init_281
