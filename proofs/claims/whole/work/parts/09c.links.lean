theorem qL_0_43 : sx_ml 0 43 = some (2, 4, mX3_heartAs) := rfl
theorem qL_0_47 : sx_ml 0 47 = some (1, 2, mX0_heartOf) := rfl
theorem qL_0_51 : sx_ml 0 51 = some (1, 2, mX0_sitters) := rfl
theorem qL_0_54 : sx_ml 0 54 = some (1, 1, mX0_hangs) := rfl
theorem qL_0_58 : sx_ml 0 58 = some (1, 2, mX0_loadOf) := rfl
theorem qL_0_61 : sx_ml 0 61 = some (1, 1, mX0_tiltNow) := rfl
theorem qL_0_65 : sx_ml 0 65 = some (1, 1, mX0_mixAll) := rfl
theorem qL_0_68 : sx_ml 0 68 = some (2, 3, mX3_mixing) := rfl
theorem qL_2_22 : sx_ml 2 22 = some (1, 1, mX2_advance) := rfl
theorem qL_2_25 : sx_ml 2 25 = some (1, 2, mX2_tellItem) := rfl
theorem qL_2_37 : sx_ml 2 37 = some (1, 2, mX2_isWord) := rfl
theorem qL_2_41 : sx_ml 2 41 = some (1, 2, mX2_isNumber) := rfl
theorem qL_2_55 : sx_ml 2 55 = some (1, 2, mX2_tellNews) := rfl
theorem qL_2_58 : sx_ml 2 58 = some (1, 1, mX2_kindNamed) := rfl
theorem qL_2_65 : sx_ml 2 65 = some (1, 2, mX0_join) := rfl
theorem qL_2_74 : sx_ml 2 74 = some (1, 5, mX2_tellPart) := rfl
theorem qL_2_88 : sx_ml 2 88 = some (1, 4, mX0_hear) := rfl
theorem qL_2_92 : sx_ml 2 92 = some (0, 1, mX2_nameOf) := rfl
theorem qL_2_108 : sx_ml 2 108 = some (1, 1, mJ0_length_8abf5) := rfl
theorem qL_2_112 : sx_ml 2 112 = some (1, 2, mJ0_charAt_5068e) := rfl
theorem qL_2_116 : sx_ml 2 116 = some (0, 1, mX2_isLetter) := rfl
theorem qL_2_119 : sx_ml 2 119 = some (1, 1, mX2_takeWord) := rfl
theorem qL_2_122 : sx_ml 2 122 = some (0, 1, mX2_isDigit) := rfl
theorem qL_2_125 : sx_ml 2 125 = some (1, 1, mX2_takeNumber) := rfl
theorem qL_3_49 : sx_ml 3 49 = some (0, 1, mX3_isKind) := rfl
theorem qL_3_54 : sx_ml 3 54 = some (1, 2, mX3_finding) := rfl
theorem qL_3_63 : sx_ml 3 63 = some (1, 2, mX0_join) := rfl
theorem qL_3_66 : sx_ml 3 66 = some (1, 2, mX3_isPerson) := rfl
theorem qL_3_81 : sx_ml 3 81 = some (0, 2, mX3_mixesAs) := rfl
theorem qL_3_85 : sx_ml 3 85 = some (1, 2, mX0_heartOf) := rfl
theorem qL_3_88 : sx_ml 3 88 = some (0, 1, mX3_isFeeling) := rfl
theorem qL_3_91 : sx_ml 3 91 = some (0, 3, mX3_put) := rfl
theorem qL_3_95 : sx_ml 3 95 = some (0, 1, mX3_isEnd) := rfl
theorem qL_3_98 : sx_ml 3 98 = some (0, 2, mX3_isUnder) := rfl
theorem qL_3_103 : sx_ml 3 103 = some (1, 4, mX0_hear) := rfl
theorem qL_3_107 : sx_ml 3 107 = some (1, 2, mX0_loadOf) := rfl
theorem qL_3_110 : sx_ml 3 110 = some (1, 2, mX0_sitters) := rfl
theorem qL_3_120 : sx_ml 3 120 = some (0, 3, mX3_isWithin) := rfl
theorem qL_3_129 : sx_ml 3 129 = some (1, 2, mX0_goOn) := rfl
theorem qL_3_133 : sx_ml 3 133 = some (1, 1, mX0_tiltNow) := rfl
theorem qL_3_137 : sx_ml 3 137 = some (1, 1, mX0_isLevel) := rfl
theorem qL_3_141 : sx_ml 3 141 = some (0, 2, mX3_sum) := rfl
theorem qL_3_145 : sx_ml 3 145 = some (1, 2, mX0_becomes) := rfl
theorem qL_3_150 : sx_ml 3 150 = some (1, 1, mX3_weighAll) := rfl
theorem qL_3_153 : sx_ml 3 153 = some (0, 1, mJ6_bitCount_0f7a4) := rfl
theorem qL_3_158 : sx_ml 3 158 = some (1, 2, mX3_heartsOf) := rfl
theorem qL_3_166 : sx_ml 3 166 = some (1, 1, mX0_hangs) := rfl
theorem qL_3_172 : sx_ml 3 172 = some (1, 2, mX2_append) := rfl
theorem qL_3_175 : sx_ml 3 175 = some (1, 2, mX2_tellAll) := rfl
theorem qL_3_179 : sx_ml 3 179 = some (0, 1, mX3_isSheet) := rfl
theorem qL_3_182 : sx_ml 3 182 = some (1, 3, mX1_lay) := rfl
theorem qL_3_185 : sx_ml 3 185 = some (1, 2, mX3_lookFor) := rfl
theorem qL_3_195 : sx_ml 3 195 = some (1, 3, mX1_enter) := rfl
theorem qL_3_203 : sx_ml 3 203 = some (1, 3, mX1_hasRun) := rfl
theorem qL_3_214 : sx_ml 3 214 = some (1, 4, mX3_tellRests) := rfl
theorem qL_3_218 : sx_ml 3 218 = some (1, 2, mX3_isWritten) := rfl
theorem qL_3_222 : sx_ml 3 222 = some (1, 5, mX3_fits) := rfl
theorem qL_3_233 : sx_ml 3 233 = some (0, 4, mX3_heartAs) := rfl
theorem qL_3_237 : sx_ml 3 237 = some (0, 3, mX3_mixing) := rfl
theorem qL_4_42 : sx_ml 4 42 = some (0, 3, mX4_in) := rfl
theorem qL_4_48 : sx_ml 4 48 = some (0, 2, mX4_spotOf) := rfl
theorem qL_4_52 : sx_ml 4 52 = some (0, 1, mX4_isKind) := rfl
theorem qL_4_56 : sx_ml 4 56 = some (1, 2, mX4_finds) := rfl
theorem qL_4_61 : sx_ml 4 61 = some (1, 2, mX4_adds) := rfl
theorem qL_4_64 : sx_ml 4 64 = some (1, 3, mX4_its) := rfl
theorem qL_4_67 : sx_ml 4 67 = some (1, 2, mX4_isPerson) := rfl
theorem qL_4_72 : sx_ml 4 72 = some (1, 2, mX4_mixesOf) := rfl
theorem qL_4_75 : sx_ml 4 75 = some (1, 2, mX4_heartOf) := rfl
theorem qL_4_84 : sx_ml 4 84 = some (1, 3, mX4_becomes) := rfl
theorem qL_4_87 : sx_ml 4 87 = some (0, 2, mX4_isUnder) := rfl
theorem qL_4_92 : sx_ml 4 92 = some (0, 1, mX4_heldTo) := rfl
theorem qL_4_95 : sx_ml 4 95 = some (1, 4, mX4_hears) := rfl
theorem qL_4_99 : sx_ml 4 99 = some (0, 1, mX4_isEnd) := rfl
theorem qL_4_102 : sx_ml 4 102 = some (1, 2, mX4_loadOf) := rfl
theorem qL_4_105 : sx_ml 4 105 = some (1, 2, mX4_thoseAt) := rfl
theorem qL_4_111 : sx_ml 4 111 = some (1, 1, mX4_isHanging) := rfl
theorem qL_4_115 : sx_ml 4 115 = some (1, 1, mX4_tiltNow) := rfl
theorem qL_4_119 : sx_ml 4 119 = some (1, 2, mX4_isMixing) := rfl
theorem qL_4_123 : sx_ml 4 123 = some (1, 1, mX4_minute) := rfl
theorem qL_4_130 : sx_ml 4 130 = some (1, 2, mX4_minutesGo) := rfl
theorem qL_4_133 : sx_ml 4 133 = some (1, 1, mX4_sitting) := rfl
theorem qL_4_136 : sx_ml 4 136 = some (1, 2, mX4_together) := rfl
theorem qL_4_139 : sx_ml 4 139 = some (1, 1, mX4_laysAside) := rfl
theorem qL_4_142 : sx_ml 4 142 = some (1, 2, mX4_takesBack) := rfl
theorem qL_4_146 : sx_ml 4 146 = some (0, 1, mX4_ones) := rfl
theorem qL_4_149 : sx_ml 4 149 = some (1, 1, mX4_far) := rfl
theorem qL_4_154 : sx_ml 4 154 = some (0, 2, mX4_isSoon) := rfl
theorem qL_4_175 : sx_ml 4 175 = some (1, 2, mX4_byteAt) := rfl
theorem qL_4_178 : sx_ml 4 178 = some (0, 1, mX4_isLetter) := rfl
theorem qL_4_181 : sx_ml 4 181 = some (0, 1, mX4_isDigit) := rfl
theorem qL_4_188 : sx_ml 4 188 = some (1, 1, mX4_token) := rfl
theorem qL_4_198 : sx_ml 4 198 = some (1, 2, mX4_must) := rfl
theorem qL_4_202 : sx_ml 4 202 = some (1, 1, mX4_word) := rfl
theorem qL_4_218 : sx_ml 4 218 = some (1, 3, mX4_number) := rfl
theorem qL_4_224 : sx_ml 4 224 = some (1, 4, mX4_partItem) := rfl
theorem qL_4_232 : sx_ml 4 232 = some (1, 1, mX4_kindHere) := rfl
theorem qL_4_235 : sx_ml 4 235 = some (1, 2, mX4_personItem) := rfl
theorem qL_4_240 : sx_ml 4 240 = some (1, 1, mX4_newsItem) := rfl
theorem qL_4_245 : sx_ml 4 245 = some (1, 1, mX4_saves) := rfl
theorem qL_4_248 : sx_ml 4 248 = some (1, 1, mX4_item) := rfl
theorem qL_4_251 : sx_ml 4 251 = some (1, 1, mX4_putsBack) := rfl
theorem qL_4_256 : sx_ml 4 256 = some (0, 1, mX4_isOne) := rfl
theorem qL_4_260 : sx_ml 4 260 = some (1, 2, mX4_wrongSheet) := rfl
theorem qL_4_263 : sx_ml 4 263 = some (0, 2, mX4_narrowed) := rfl
theorem qL_4_267 : sx_ml 4 267 = some (1, 2, mX4_isBook) := rfl
theorem qL_5_13 : sx_ml 5 13 = some (1, 2, mX3_person) := rfl
theorem qL_5_17 : sx_ml 5 17 = some (1, 2, mX4_person) := rfl
theorem qL_5_18 : sx_ml 5 18 = some (1, 3, mX3_of) := rfl
theorem qL_5_22 : sx_ml 5 22 = some (1, 3, mX4_of) := rfl
theorem qL_5_23 : sx_ml 5 23 = some (1, 2, mX3_heart) := rfl
theorem qL_5_26 : sx_ml 5 26 = some (1, 2, mX4_heart) := rfl
theorem qL_5_27 : sx_ml 5 27 = some (1, 4, mX3_set) := rfl
theorem qL_5_31 : sx_ml 5 31 = some (1, 4, mX4_set) := rfl
theorem qL_5_32 : sx_ml 5 32 = some (1, 3, mX3_turn) := rfl
theorem qL_5_35 : sx_ml 5 35 = some (1, 3, mX4_turn) := rfl
theorem qL_5_36 : sx_ml 5 36 = some (1, 3, mX3_as) := rfl
theorem qL_5_39 : sx_ml 5 39 = some (1, 3, mX4_as) := rfl
theorem qL_5_40 : sx_ml 5 40 = some (1, 4, mX3_news) := rfl
theorem qL_5_43 : sx_ml 5 43 = some (1, 4, mX4_news) := rfl
theorem qL_5_44 : sx_ml 5 44 = some (1, 2, mX3_load) := rfl
theorem qL_5_47 : sx_ml 5 47 = some (1, 2, mX4_load) := rfl
theorem qL_5_48 : sx_ml 5 48 = some (1, 2, mX3_at) := rfl
theorem qL_5_51 : sx_ml 5 51 = some (1, 2, mX4_at) := rfl
theorem qL_5_52 : sx_ml 5 52 = some (1, 2, mX3_hang) := rfl
theorem qL_5_55 : sx_ml 5 55 = some (1, 2, mX4_hang) := rfl
theorem qL_5_56 : sx_ml 5 56 = some (1, 2, mX3_take) := rfl
theorem qL_5_59 : sx_ml 5 59 = some (1, 2, mX4_take) := rfl
theorem qL_5_60 : sx_ml 5 60 = some (1, 2, mX3_bag) := rfl
theorem qL_5_63 : sx_ml 5 63 = some (1, 2, mX4_bag) := rfl
theorem qL_5_64 : sx_ml 5 64 = some (1, 2, mX3_minutes) := rfl
theorem qL_5_67 : sx_ml 5 67 = some (1, 2, mX4_minutes) := rfl
theorem qL_5_68 : sx_ml 5 68 = some (1, 2, mX3_now) := rfl
theorem qL_5_71 : sx_ml 5 71 = some (1, 2, mX4_now) := rfl
theorem qL_5_72 : sx_ml 5 72 = some (1, 4, mX3_on) := rfl
theorem qL_5_75 : sx_ml 5 75 = some (1, 4, mX4_on) := rfl
theorem qL_5_76 : sx_ml 5 76 = some (1, 2, mX3_tilt) := rfl
theorem qL_5_79 : sx_ml 5 79 = some (1, 2, mX4_tilt) := rfl
theorem qL_5_80 : sx_ml 5 80 = some (1, 1, mX3_level) := rfl
theorem qL_5_84 : sx_ml 5 84 = some (1, 1, mX4_level) := rfl
theorem qL_5_85 : sx_ml 5 85 = some (1, 2, mX3_mixed) := rfl
theorem qL_5_88 : sx_ml 5 88 = some (1, 2, mX4_mixed) := rfl
theorem qL_5_89 : sx_ml 5 89 = some (1, 2, mX3_match) := rfl
theorem qL_5_92 : sx_ml 5 92 = some (1, 2, mX4_match) := rfl
theorem qL_5_93 : sx_ml 5 93 = some (1, 1, mX3_seats) := rfl
theorem qL_5_96 : sx_ml 5 96 = some (1, 1, mX4_seats) := rfl
theorem qL_5_97 : sx_ml 5 97 = some (1, 1, mX3_weights) := rfl
theorem qL_5_100 : sx_ml 5 100 = some (1, 1, mX4_weights) := rfl
theorem qL_5_101 : sx_ml 5 101 = some (1, 2, mX3_sorrow) := rfl
theorem qL_5_104 : sx_ml 5 104 = some (1, 2, mX4_sorrow) := rfl
theorem qL_5_105 : sx_ml 5 105 = some (1, 2, mX3_kind) := rfl
theorem qL_5_108 : sx_ml 5 108 = some (1, 2, mX4_kind) := rfl
theorem qL_5_109 : sx_ml 5 109 = some (1, 4, mX3_delay) := rfl
theorem qL_5_112 : sx_ml 5 112 = some (1, 4, mX4_delay) := rfl
theorem qL_5_113 : sx_ml 5 113 = some (1, 2, mX3_fewest) := rfl
theorem qL_5_116 : sx_ml 5 116 = some (1, 2, mX4_fewest) := rfl
theorem qL_5_117 : sx_ml 5 117 = some (1, 4, mX3_helps) := rfl
theorem qL_5_120 : sx_ml 5 120 = some (1, 4, mX4_helps) := rfl
theorem qL_5_121 : sx_ml 5 121 = some (1, 3, mX3_feed) := rfl
theorem qL_5_124 : sx_ml 5 124 = some (1, 3, mX4_feed) := rfl
theorem qL_5_125 : sx_ml 5 125 = some (1, 1, mX3_wipe) := rfl
theorem qL_5_128 : sx_ml 5 128 = some (1, 1, mX4_wipe) := rfl
theorem qL_5_129 : sx_ml 5 129 = some (1, 1, mX3_park) := rfl
theorem qL_5_132 : sx_ml 5 132 = some (1, 1, mX4_park) := rfl
theorem qL_5_133 : sx_ml 5 133 = some (1, 4, mX3_sheet) := rfl
theorem qL_5_136 : sx_ml 5 136 = some (1, 4, mX4_sheet) := rfl
theorem qL_5_139 : sx_ml 5 139 = some (1, 4, mX3_write) := rfl
theorem qL_5_143 : sx_ml 5 143 = some (1, 4, mX4_write) := rfl
theorem qL_5_144 : sx_ml 5 144 = some (1, 6, mX3_copy) := rfl
theorem qL_5_148 : sx_ml 5 148 = some (1, 6, mX4_copy) := rfl
theorem qL_5_149 : sx_ml 5 149 = some (1, 2, mX3_lays) := rfl
theorem qL_5_152 : sx_ml 5 152 = some (1, 2, mX4_lays) := rfl
theorem qL_5_153 : sx_ml 5 153 = some (1, 2, mX3_book) := rfl
theorem qL_5_156 : sx_ml 5 156 = some (1, 2, mX4_book) := rfl
theorem qL_5_157 : sx_ml 5 157 = some (1, 3, mX3_read) := rfl
theorem qL_5_160 : sx_ml 5 160 = some (1, 3, mX4_read) := rfl
theorem qL_5_161 : sx_ml 5 161 = some (1, 1, mX3_image) := rfl
theorem qL_5_164 : sx_ml 5 164 = some (1, 1, mX4_image) := rfl
theorem qL_5_165 : sx_ml 5 165 = some (1, 1, mX3_undo) := rfl
theorem qL_5_168 : sx_ml 5 168 = some (1, 1, mX4_undo) := rfl
theorem qL_5_169 : sx_ml 5 169 = some (1, 1, mX3_tear) := rfl
theorem qL_5_172 : sx_ml 5 172 = some (1, 1, mX4_tear) := rfl
theorem qL_5_173 : sx_ml 5 173 = some (1, 2, mX3_count) := rfl
theorem qL_5_176 : sx_ml 5 176 = some (1, 2, mX4_count) := rfl
theorem qL_5_177 : sx_ml 5 177 = some (1, 2, mX3_status) := rfl
theorem qL_5_180 : sx_ml 5 180 = some (1, 2, mX4_status) := rfl
theorem qL_6_335 : sx_ml 6 335 = some (1, 1, mJ0_coder_7d493) := rfl
theorem qL_6_492 : sx_ml 6 492 = some (1, 1, mJ0_isLatin1_aae02) := rfl
theorem qL_6_495 : sx_ml 6 495 = some (0, 2, mJ1_charAt_3b067) := rfl
theorem qL_6_1059 : sx_ml 6 1059 = some (0, 3, mJ3_checkIndex_8e157) := rfl
theorem qL_7_9 : sx_ml 7 9 = some (0, 2, mJ0_checkIndex_df160) := rfl
theorem fL_0_9 : sx_fl 0 9 = some (0, 0, 2) := by decide +kernel
theorem fL_0_15 : sx_fl 0 15 = some (0, 1, 2) := by decide +kernel
theorem fL_0_18 : sx_fl 0 18 = some (0, 2, 2) := by decide +kernel
theorem fL_0_21 : sx_fl 0 21 = some (0, 3, 2) := by decide +kernel
theorem fL_0_24 : sx_fl 0 24 = some (0, 4, 2) := by decide +kernel
theorem fL_0_27 : sx_fl 0 27 = some (0, 7, 0) := by decide +kernel
theorem fL_0_31 : sx_fl 0 31 = some (0, 5, 0) := by decide +kernel
theorem fL_0_34 : sx_fl 0 34 = some (0, 6, 0) := by decide +kernel
theorem fL_1_9 : sx_fl 1 9 = some (1, 0, 2) := by decide +kernel
theorem fL_1_15 : sx_fl 1 15 = some (1, 1, 0) := by decide +kernel
theorem fL_1_19 : sx_fl 1 19 = some (1, 2, 0) := by decide +kernel
theorem fL_2_9 : sx_fl 2 9 = some (2, 0, 2) := by decide +kernel
theorem fL_2_15 : sx_fl 2 15 = some (2, 1, 0) := by decide +kernel
theorem fL_2_19 : sx_fl 2 19 = some (2, 3, 0) := by decide +kernel
theorem fL_2_29 : sx_fl 2 29 = some (2, 2, 0) := by decide +kernel
theorem fL_2_32 : sx_fl 2 32 = some (2, 4, 0) := by decide +kernel
theorem fL_2_45 : sx_fl 2 45 = some (2, 5, 0) := by decide +kernel
theorem fL_2_48 : sx_fl 2 48 = some (0, 7, 0) := by decide +kernel
theorem fL_2_62 : sx_fl 2 62 = some (0, 5, 0) := by decide +kernel
theorem fL_2_71 : sx_fl 2 71 = some (0, 1, 2) := by decide +kernel
theorem fL_2_80 : sx_fl 2 80 = some (0, 2, 2) := by decide +kernel
theorem fL_2_85 : sx_fl 2 85 = some (0, 3, 2) := by decide +kernel
theorem fL_3_10 : sx_fl 3 10 = some (3, 0, 2) := by decide +kernel
theorem fL_3_16 : sx_fl 3 16 = some (3, 1, 2) := by decide +kernel
theorem fL_3_19 : sx_fl 3 19 = some (3, 2, 2) := by decide +kernel
theorem fL_3_22 : sx_fl 3 22 = some (3, 3, 2) := by decide +kernel
theorem fL_3_25 : sx_fl 3 25 = some (3, 4, 2) := by decide +kernel
theorem fL_3_29 : sx_fl 3 29 = some (3, 5, 2) := by decide +kernel
theorem fL_3_35 : sx_fl 3 35 = some (3, 6, 2) := by decide +kernel
theorem fL_3_41 : sx_fl 3 41 = some (3, 7, 2) := by decide +kernel
theorem fL_3_45 : sx_fl 3 45 = some (3, 8, 2) := by decide +kernel
theorem fL_3_58 : sx_fl 3 58 = some (0, 5, 0) := by decide +kernel
theorem fL_3_69 : sx_fl 3 69 = some (0, 0, 2) := by decide +kernel
theorem fL_3_72 : sx_fl 3 72 = some (0, 1, 2) := by decide +kernel
theorem fL_3_75 : sx_fl 3 75 = some (0, 2, 2) := by decide +kernel
theorem fL_3_78 : sx_fl 3 78 = some (0, 3, 2) := by decide +kernel
theorem fL_3_113 : sx_fl 3 113 = some (0, 7, 0) := by decide +kernel
theorem fL_3_117 : sx_fl 3 117 = some (0, 4, 2) := by decide +kernel
theorem fL_3_124 : sx_fl 3 124 = some (0, 6, 0) := by decide +kernel
theorem fL_3_169 : sx_fl 3 169 = some (2, 1, 0) := by decide +kernel
theorem fL_3_188 : sx_fl 3 188 = some (1, 2, 0) := by decide +kernel
theorem fL_3_191 : sx_fl 3 191 = some (1, 0, 2) := by decide +kernel
theorem fL_3_199 : sx_fl 3 199 = some (1, 1, 0) := by decide +kernel
theorem fL_3_226 : sx_fl 3 226 = some (3, 9, 1) := by decide +kernel
theorem fL_4_7 : sx_fl 4 7 = some (4, 0, 2) := by decide +kernel
theorem fL_4_13 : sx_fl 4 13 = some (4, 1, 2) := by decide +kernel
theorem fL_4_16 : sx_fl 4 16 = some (4, 2, 2) := by decide +kernel
theorem fL_4_19 : sx_fl 4 19 = some (4, 3, 2) := by decide +kernel
theorem fL_4_22 : sx_fl 4 22 = some (4, 4, 2) := by decide +kernel
theorem fL_4_25 : sx_fl 4 25 = some (4, 6, 2) := by decide +kernel
theorem fL_4_28 : sx_fl 4 28 = some (4, 12, 2) := by decide +kernel
theorem fL_4_31 : sx_fl 4 31 = some (4, 13, 2) := by decide +kernel
theorem fL_4_34 : sx_fl 4 34 = some (4, 14, 2) := by decide +kernel
theorem fL_4_38 : sx_fl 4 38 = some (4, 15, 2) := by decide +kernel
theorem fL_4_157 : sx_fl 4 157 = some (4, 7, 0) := by decide +kernel
theorem fL_4_169 : sx_fl 4 169 = some (4, 9, 0) := by decide +kernel
theorem fL_4_172 : sx_fl 4 172 = some (4, 8, 0) := by decide +kernel
theorem fL_4_184 : sx_fl 4 184 = some (4, 11, 1) := by decide +kernel
theorem fL_4_195 : sx_fl 4 195 = some (4, 10, 0) := by decide +kernel
theorem fL_4_270 : sx_fl 4 270 = some (4, 5, 1) := by decide +kernel
theorem fL_6_9 : sx_fl 6 9 = some (20, 0, 2) := by decide +kernel
theorem fL_6_15 : sx_fl 6 15 = some (20, 1, 0) := by decide +kernel
theorem iL_3_53 : sx_il 3 53 = some (-1000000001) := by decide +kernel
theorem iL_3_62 : sx_il 3 62 = some (-1000000002) := by decide +kernel
theorem iL_3_102 : sx_il 3 102 = some (-1000000003) := by decide +kernel
theorem iL_3_116 : sx_il 3 116 = some (-1000000004) := by decide +kernel
theorem iL_3_127 : sx_il 3 127 = some (99999) := by decide +kernel
theorem iL_3_128 : sx_il 3 128 = some (-1000000005) := by decide +kernel
theorem iL_3_149 : sx_il 3 149 = some (-1000000007) := by decide +kernel
theorem iL_3_202 : sx_il 3 202 = some (-1000000006) := by decide +kernel
theorem iL_4_41 : sx_il 4 41 = some (-1000000001) := by decide +kernel
theorem iL_4_60 : sx_il 4 60 = some (-1000000002) := by decide +kernel
theorem iL_4_91 : sx_il 4 91 = some (-1000000003) := by decide +kernel
theorem iL_4_108 : sx_il 4 108 = some (-1000000004) := by decide +kernel
theorem iL_4_128 : sx_il 4 128 = some (99999) := by decide +kernel
theorem iL_4_129 : sx_il 4 129 = some (-1000000005) := by decide +kernel
theorem iL_4_145 : sx_il 4 145 = some (-1000000007) := by decide +kernel
theorem iL_4_259 : sx_il 4 259 = some (-1000000006) := by decide +kernel
theorem iL_8_265 : sx_il 8 265 = some (1431655765) := by decide +kernel
theorem iL_8_266 : sx_il 8 266 = some (858993459) := by decide +kernel
theorem iL_8_267 : sx_il 8 267 = some (252645135) := by decide +kernel
theorem lL_3_212 : sx_ll 3 212 = some (99) := by decide +kernel
theorem lL_4_46 : sx_ll 4 46 = some (5) := by decide +kernel
theorem lL_4_70 : sx_ll 4 70 = some (4) := by decide +kernel
theorem lL_4_78 : sx_ll 4 78 = some (-1) := by decide +kernel
theorem lL_4_80 : sx_ll 4 80 = some (2) := by decide +kernel
theorem lL_4_82 : sx_ll 4 82 = some (99) := by decide +kernel
theorem lL_4_109 : sx_ll 4 109 = some (20) := by decide +kernel
theorem lL_4_126 : sx_ll 4 126 = some (100) := by decide +kernel
theorem lL_4_152 : sx_ll 4 152 = some (60) := by decide +kernel
theorem lL_4_161 : sx_ll 4 161 = some (97) := by decide +kernel
theorem lL_4_163 : sx_ll 4 163 = some (122) := by decide +kernel
theorem lL_4_165 : sx_ll 4 165 = some (48) := by decide +kernel
theorem lL_4_167 : sx_ll 4 167 = some (57) := by decide +kernel
theorem lL_4_191 : sx_ll 4 191 = some (36028797018963967) := by decide +kernel
theorem lL_4_193 : sx_ll 4 193 = some (32) := by decide +kernel
theorem lL_4_206 : sx_ll 4 206 = some (13358) := by decide +kernel
theorem lL_4_208 : sx_ll 4 208 = some (239180) := by decide +kernel
theorem lL_4_210 : sx_ll 4 210 = some (3417476) := by decide +kernel
theorem lL_4_212 : sx_ll 4 212 = some (13690354) := by decide +kernel
theorem lL_4_214 : sx_ll 4 214 = some (522723374) := by decide +kernel
theorem lL_4_216 : sx_ll 4 216 = some (24416759) := by decide +kernel
theorem lL_4_222 : sx_ll 4 222 = some (241700) := by decide +kernel
theorem lL_4_228 : sx_ll 4 228 = some (20433497) := by decide +kernel
theorem lL_4_230 : sx_ll 4 230 = some (494) := by decide +kernel
theorem lL_4_238 : sx_ll 4 238 = some (464627) := by decide +kernel
theorem lL_4_243 : sx_ll 4 243 = some (2087) := by decide +kernel
theorem lL_4_254 : sx_ll 4 254 = some (3) := by decide +kernel
theorem lL_4_273 : sx_ll 4 273 = some (6) := by decide +kernel
theorem lL_5_137 : sx_ll 5 137 = some (4294967295) := by decide +kernel
