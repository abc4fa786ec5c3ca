theorem wsL_law_in0 : ∀ w ∈ wsL_law0, w ∈ lw_tbl := sorry
theorem wsL_law_x0 : ∀ w ∈ (vx_atM "java/lang/ArrayIndexOutOfBoundsException" ["java/lang/IndexOutOfBoundsException", "java/lang/RuntimeException", "java/lang/Exception"]).filter goodWord, w ∈ lw_tbl := sorry
theorem wsL_law_x1 : ∀ w ∈ (vx_atS RX5 66 "java/lang/IllegalArgumentException" ["java/lang/RuntimeException", "java/lang/Exception"]).filter goodWord, w ∈ lw_tbl := sorry
theorem wsL_law_x2 : ∀ w ∈ (vx_atS RX5 77 "java/lang/UnsupportedOperationException" ["java/lang/RuntimeException", "java/lang/Exception"]).filter goodWord, w ∈ lw_tbl := sorry
theorem wsL_law_x3 : ∀ w ∈ (vx_atS RX5 86 "java/lang/IllegalStateException" ["java/lang/RuntimeException", "java/lang/Exception"]).filter goodWord, w ∈ lw_tbl := sorry
theorem wsL_law_x4 : ∀ w ∈ (vx_atS RX5 124 "java/util/NoSuchElementException" ["java/lang/RuntimeException", "java/lang/Exception"]).filter goodWord, w ∈ lw_tbl := sorry
theorem wsL_law_x5 : ∀ w ∈ (vx_atS RX5 257 "java/lang/IndexOutOfBoundsException" ["java/lang/RuntimeException", "java/lang/Exception"]).filter goodWord, w ∈ lw_tbl := sorry
theorem wsL_law_x6 : ∀ w ∈ (vx_atM "java/lang/ArithmeticException" ["java/lang/RuntimeException", "java/lang/Exception"]).filter goodWord, w ∈ lw_tbl := sorry
theorem wsL_law_x7 : ∀ w ∈ (vx_atS RX5 266 "java/lang/ArithmeticException" ["java/lang/RuntimeException", "java/lang/Exception"]).filter goodWord, w ∈ lw_tbl := sorry
theorem wsL_law_in : ∀ w ∈ wsL_law, w ∈ lw_tbl := sorry
theorem inlX0 : ∀ w ∈ wsX00, w ∈ wsL_law := sorry
theorem inX0 : ∀ w ∈ wsX00, w ∈ lw_tbl := sorry
theorem inlX1 : ∀ w ∈ wsX10, w ∈ wsL_law := sorry
theorem inX1 : ∀ w ∈ wsX10, w ∈ lw_tbl := sorry
theorem inlX2 : ∀ w ∈ wsX20, w ∈ wsL_law := sorry
theorem inX2 : ∀ w ∈ wsX20, w ∈ lw_tbl := sorry
theorem inlX3 : ∀ w ∈ wsX30, w ∈ wsL_law := sorry
theorem inX3 : ∀ w ∈ wsX30, w ∈ lw_tbl := sorry
theorem inlX4 : ∀ w ∈ wsX40, w ∈ wsL_law := sorry
theorem inX4 : ∀ w ∈ wsX40, w ∈ lw_tbl := sorry
theorem inlX5 : ∀ w ∈ wsX50, w ∈ wsL_law := sorry
theorem inX5 : ∀ w ∈ wsX50, w ∈ lw_tbl := sorry
theorem inlX6 : ∀ w ∈ wsX60, w ∈ wsL_law := sorry
theorem inX6 : ∀ w ∈ wsX60, w ∈ lw_tbl := sorry
theorem inJx00060 : ∀ w ∈ wsJx000600, w ∈ lw_tbl := sorry
theorem inJ0 : ∀ w ∈ wsJ00, w ∈ lw_tbl := sorry
theorem inJ4 : ∀ w ∈ wsJ40, w ∈ lw_tbl := sorry
theorem inlJx4a65c : ∀ w ∈ wsJx4a65c0, w ∈ wsL_law := sorry
theorem inJx4a65c : ∀ w ∈ wsJx4a65c0, w ∈ lw_tbl := sorry
theorem ggL_addCue_X5_addCue : GoodIn wsL_addCue wsX5_addCue := sorry
theorem gL_addCue_X5_addCue : GoodIn wsL_addCue (wsV RL 7 RX5 yX5_addCue wsX5_addCue) := sorry
theorem ggL_removeCue_X5_removeCue : GoodIn wsL_removeCue wsX5_removeCue := sorry
theorem gL_removeCue_X5_removeCue : GoodIn wsL_removeCue (wsV RL 19 RX5 yX5_removeCue wsX5_removeCue) := sorry
theorem ggL_setChange_X5_setChange : GoodIn wsL_setChange wsX5_setChange := sorry
theorem gL_setChange_X5_setChange : GoodIn wsL_setChange (wsV RL 25 RX5 yX5_setChange wsX5_setChange) := sorry
theorem ggL_removeChange_X5_removeChange : GoodIn wsL_removeChange wsX5_removeChange := sorry
theorem gL_removeChange_X5_removeChange : GoodIn wsL_removeChange (wsV RL 31 RX5 yX5_removeChange wsX5_removeChange) := sorry
theorem ggL_setBlock_X5_setBlock : GoodIn wsL_setBlock wsX5_setBlock := sorry
theorem gL_setBlock_X5_setBlock : GoodIn wsL_setBlock (wsV RL 35 RX5 yX5_setBlock wsX5_setBlock) := sorry
theorem ggL_trackedLevel_X5_trackedLevel : GoodIn wsL_trackedLevel wsX5_trackedLevel := sorry
theorem gL_trackedLevel_X5_trackedLevel : GoodIn wsL_trackedLevel (wsV RL 39 RX5 yX5_trackedLevel wsX5_trackedLevel) := sorry
theorem ggL_go_X5_go : GoodIn wsL_go wsX5_go := sorry
theorem gL_go_X5_go : GoodIn wsL_go (wsV RL 42 RX5 yX5_go wsX5_go) := sorry
theorem ggL_back_X5_back : GoodIn wsL_back wsX5_back := sorry
theorem gL_back_X5_back : GoodIn wsL_back (wsV RL 46 RX5 yX5_back wsX5_back) := sorry
theorem ggL_goTo_X5_goTo : GoodIn wsL_goTo wsX5_goTo := sorry
theorem gL_goTo_X5_goTo : GoodIn wsL_goTo (wsV RL 49 RX5 yX5_goTo wsX5_goTo) := sorry
theorem ggL_pass_X5_pass : GoodIn wsL_pass wsX5_pass := sorry
theorem gL_pass_X5_pass : GoodIn wsL_pass (wsV RL 52 RX5 yX5_pass wsX5_pass) := sorry
theorem ggL_cueLevel_X5_cueLevel : GoodIn wsL_cueLevel wsX5_cueLevel := sorry
theorem gL_cueLevel_X5_cueLevel : GoodIn wsL_cueLevel (wsV RL 55 RX5 yX5_cueLevel wsX5_cueLevel) := sorry
theorem ggL_addGroup_X5_addGroup : GoodIn wsL_addGroup wsX5_addGroup := sorry
theorem gL_addGroup_X5_addGroup : GoodIn wsL_addGroup (wsV RL 58 RX5 yX5_addGroup wsX5_addGroup) := sorry
theorem ggL_setMember_X5_setMember : GoodIn wsL_setMember wsX5_setMember := sorry
theorem gL_setMember_X5_setMember : GoodIn wsL_setMember (wsV RL 61 RX5 yX5_setMember wsX5_setMember) := sorry
theorem ggL_setFader_X5_setFader : GoodIn wsL_setFader wsX5_setFader := sorry
theorem gL_setFader_X5_setFader : GoodIn wsL_setFader (wsV RL 65 RX5 yX5_setFader wsX5_setFader) := sorry
theorem ggL_setLatest_X5_setLatest : GoodIn wsL_setLatest wsX5_setLatest := sorry
theorem gL_setLatest_X5_setLatest : GoodIn wsL_setLatest (wsV RL 68 RX5 yX5_setLatest wsX5_setLatest) := sorry
theorem ggL_latestSource_X5_latestSource : GoodIn wsL_latestSource wsX5_latestSource := sorry
theorem gL_latestSource_X5_latestSource : GoodIn wsL_latestSource (wsV RL 71 RX5 yX5_latestSource wsX5_latestSource) := sorry
theorem ggL_baseLevel_X5_baseLevel : GoodIn wsL_baseLevel wsX5_baseLevel := sorry
theorem gL_baseLevel_X5_baseLevel : GoodIn wsL_baseLevel (wsV RL 74 RX5 yX5_baseLevel wsX5_baseLevel) := sorry
theorem ggL_addEffect_X5_addEffect : GoodIn wsL_addEffect wsX5_addEffect := sorry
theorem gL_addEffect_X5_addEffect : GoodIn wsL_addEffect (wsV RL 77 RX5 yX5_addEffect wsX5_addEffect) := sorry
theorem ggL_startEffect_X5_startEffect : GoodIn wsL_startEffect wsX5_startEffect := sorry
theorem gL_startEffect_X5_startEffect : GoodIn wsL_startEffect (wsV RL 81 RX5 yX5_startEffect wsX5_startEffect) := sorry
theorem ggL_stopEffect_X5_stopEffect : GoodIn wsL_stopEffect wsX5_stopEffect := sorry
theorem gL_stopEffect_X5_stopEffect : GoodIn wsL_stopEffect (wsV RL 84 RX5 yX5_stopEffect wsX5_stopEffect) := sorry
theorem ggL_effectOn_X5_effectOn : GoodIn wsL_effectOn wsX5_effectOn := sorry
theorem gL_effectOn_X5_effectOn : GoodIn wsL_effectOn (wsV RL 87 RX5 yX5_effectOn wsX5_effectOn) := sorry
theorem ggL_park_X5_park : GoodIn wsL_park wsX5_park := sorry
theorem gL_park_X5_park : GoodIn wsL_park (wsV RL 90 RX5 yX5_park wsX5_park) := sorry
theorem ggL_unpark_X5_unpark : GoodIn wsL_unpark wsX5_unpark := sorry
theorem gL_unpark_X5_unpark : GoodIn wsL_unpark (wsV RL 93 RX5 yX5_unpark wsX5_unpark) := sorry
theorem ggL_setMaster_X5_setMaster : GoodIn wsL_setMaster wsX5_setMaster := sorry
theorem gL_setMaster_X5_setMaster : GoodIn wsL_setMaster (wsV RL 96 RX5 yX5_setMaster wsX5_setMaster) := sorry
theorem ggL_level_X5_level : GoodIn wsL_level wsX5_level := sorry
theorem gL_level_X5_level : GoodIn wsL_level (wsV RL 99 RX5 yX5_level wsX5_level) := sorry
theorem ggL_levelAlone_X5_levelAlone : GoodIn wsL_levelAlone wsX5_levelAlone := sorry
theorem gL_levelAlone_X5_levelAlone : GoodIn wsL_levelAlone (wsV RL 102 RX5 yX5_levelAlone wsX5_levelAlone) := sorry
theorem ggL_channelByLevel_X5_channelByLevel : GoodIn wsL_channelByLevel wsX5_channelByLevel := sorry
theorem gL_channelByLevel_X5_channelByLevel : GoodIn wsL_channelByLevel (wsV RL 105 RX5 yX5_channelByLevel wsX5_channelByLevel) := sorry
theorem ggL_meanLevel_X5_meanLevel : GoodIn wsL_meanLevel wsX5_meanLevel := sorry
theorem gL_meanLevel_X5_meanLevel : GoodIn wsL_meanLevel (wsV RL 108 RX5 yX5_meanLevel wsX5_meanLevel) := sorry
theorem ggL_addStep_X5_addStep : GoodIn wsL_addStep wsX5_addStep := sorry
theorem gL_addStep_X5_addStep : GoodIn wsL_addStep (wsV RL 114 RX5 yX5_addStep wsX5_addStep) := sorry
theorem ggL_macroFault_X5_macroFault : GoodIn wsL_macroFault wsX5_macroFault := sorry
theorem gL_macroFault_X5_macroFault : GoodIn wsL_macroFault (wsV RL 118 RX5 yX5_macroFault wsX5_macroFault) := sorry
theorem ggL_law_X5_init : GoodIn wsL_law wsX5_init := sorry
theorem gL_law_X5_init : GoodIn wsL_law (wsX5_init) := sorry
theorem ggL_law_X6_init : GoodIn wsL_law wsX6_init := sorry
theorem gL_law_X6_init : GoodIn wsL_law (wsX6_init) := sorry
theorem ggL_law_L_addCue : GoodIn wsL_law wsL_addCue := sorry
theorem gL_law_L_addCue : GoodIn wsL_law (va_wsS RL 126 yL_addCue wsL_addCue) := sorry
theorem ggL_law_X6_addCue : GoodIn wsL_law wsX6_addCue := sorry
theorem gL_law_X6_addCue : GoodIn wsL_law (wsV RL 131 RX6 yX6_addCue wsX6_addCue) := sorry
theorem ggL_law_X6_thrown : GoodIn wsL_law wsX6_thrown := sorry
theorem gL_law_X6_thrown : GoodIn wsL_law (wsV RL 132 RX6 yX6_thrown wsX6_thrown) := sorry
theorem ggL_law_L_removeCue : GoodIn wsL_law wsL_removeCue := sorry
theorem gL_law_L_removeCue : GoodIn wsL_law (va_wsS RL 135 yL_removeCue wsL_removeCue) := sorry
theorem ggL_law_X6_removeCue : GoodIn wsL_law wsX6_removeCue := sorry
theorem gL_law_X6_removeCue : GoodIn wsL_law (wsV RL 138 RX6 yX6_removeCue wsX6_removeCue) := sorry
theorem ggL_law_L_setChange : GoodIn wsL_law wsL_setChange := sorry
theorem gL_law_L_setChange : GoodIn wsL_law (va_wsS RL 139 yL_setChange wsL_setChange) := sorry
theorem ggL_law_X6_setChange : GoodIn wsL_law wsX6_setChange := sorry
theorem gL_law_X6_setChange : GoodIn wsL_law (wsV RL 142 RX6 yX6_setChange wsX6_setChange) := sorry
theorem ggL_law_L_removeChange : GoodIn wsL_law wsL_removeChange := sorry
theorem gL_law_L_removeChange : GoodIn wsL_law (va_wsS RL 143 yL_removeChange wsL_removeChange) := sorry
theorem ggL_law_X6_removeChange : GoodIn wsL_law wsX6_removeChange := sorry
theorem gL_law_X6_removeChange : GoodIn wsL_law (wsV RL 146 RX6 yX6_removeChange wsX6_removeChange) := sorry
theorem ggL_law_L_setBlock : GoodIn wsL_law wsL_setBlock := sorry
theorem gL_law_L_setBlock : GoodIn wsL_law (va_wsS RL 147 yL_setBlock wsL_setBlock) := sorry
theorem ggL_law_X6_setBlock : GoodIn wsL_law wsX6_setBlock := sorry
theorem gL_law_X6_setBlock : GoodIn wsL_law (wsV RL 150 RX6 yX6_setBlock wsX6_setBlock) := sorry
theorem ggL_law_L_trackedLevel : GoodIn wsL_law wsL_trackedLevel := sorry
theorem gL_law_L_trackedLevel : GoodIn wsL_law (va_wsS RL 151 yL_trackedLevel wsL_trackedLevel) := sorry
theorem ggL_law_X6_trackedLevel : GoodIn wsL_law wsX6_trackedLevel := sorry
theorem gL_law_X6_trackedLevel : GoodIn wsL_law (wsV RL 153 RX6 yX6_trackedLevel wsX6_trackedLevel) := sorry
theorem ggL_law_X5_cues : GoodIn wsL_law wsX5_cues := sorry
theorem gL_law_X5_cues : GoodIn wsL_law (wsV RL 154 RX5 yX5_cues wsX5_cues) := sorry
theorem ggL_law_X6_cues : GoodIn wsL_law wsX6_cues := sorry
theorem gL_law_X6_cues : GoodIn wsL_law (wsV RL 157 RX6 yX6_cues wsX6_cues) := sorry
theorem ggL_law_L_go : GoodIn wsL_law wsL_go := sorry
theorem gL_law_L_go : GoodIn wsL_law (va_wsS RL 158 yL_go wsL_go) := sorry
theorem ggL_law_X6_go : GoodIn wsL_law wsX6_go := sorry
theorem gL_law_X6_go : GoodIn wsL_law (wsV RL 161 RX6 yX6_go wsX6_go) := sorry
theorem ggL_law_L_back : GoodIn wsL_law wsL_back := sorry
theorem gL_law_L_back : GoodIn wsL_law (va_wsS RL 162 yL_back wsL_back) := sorry
theorem ggL_law_X6_back : GoodIn wsL_law wsX6_back := sorry
theorem gL_law_X6_back : GoodIn wsL_law (wsV RL 164 RX6 yX6_back wsX6_back) := sorry
theorem ggL_law_L_goTo : GoodIn wsL_law wsL_goTo := sorry
theorem gL_law_L_goTo : GoodIn wsL_law (va_wsS RL 165 yL_goTo wsL_goTo) := sorry
theorem ggL_law_X6_goTo : GoodIn wsL_law wsX6_goTo := sorry
theorem gL_law_X6_goTo : GoodIn wsL_law (wsV RL 167 RX6 yX6_goTo wsX6_goTo) := sorry
theorem ggL_law_L_pass : GoodIn wsL_law wsL_pass := sorry
theorem gL_law_L_pass : GoodIn wsL_law (va_wsS RL 168 yL_pass wsL_pass) := sorry
theorem ggL_law_X6_pass : GoodIn wsL_law wsX6_pass := sorry
theorem gL_law_X6_pass : GoodIn wsL_law (wsV RL 170 RX6 yX6_pass wsX6_pass) := sorry
theorem ggL_law_X5_currentCue : GoodIn wsL_law wsX5_currentCue := sorry
theorem gL_law_X5_currentCue : GoodIn wsL_law (wsV RL 171 RX5 yX5_currentCue wsX5_currentCue) := sorry
theorem ggL_law_X6_currentCue : GoodIn wsL_law wsX6_currentCue := sorry
theorem gL_law_X6_currentCue : GoodIn wsL_law (wsV RL 174 RX6 yX6_currentCue wsX6_currentCue) := sorry
theorem ggL_law_L_cueLevel : GoodIn wsL_law wsL_cueLevel := sorry
theorem gL_law_L_cueLevel : GoodIn wsL_law (va_wsS RL 175 yL_cueLevel wsL_cueLevel) := sorry
theorem ggL_law_X6_cueLevel : GoodIn wsL_law wsX6_cueLevel := sorry
theorem gL_law_X6_cueLevel : GoodIn wsL_law (wsV RL 177 RX6 yX6_cueLevel wsX6_cueLevel) := sorry
theorem ggL_law_X5_ticksLeft : GoodIn wsL_law wsX5_ticksLeft := sorry
theorem gL_law_X5_ticksLeft : GoodIn wsL_law (wsV RL 178 RX5 yX5_ticksLeft wsX5_ticksLeft) := sorry
theorem ggL_law_X6_ticksLeft : GoodIn wsL_law wsX6_ticksLeft := sorry
theorem gL_law_X6_ticksLeft : GoodIn wsL_law (wsV RL 181 RX6 yX6_ticksLeft wsX6_ticksLeft) := sorry
theorem ggL_law_L_addGroup : GoodIn wsL_law wsL_addGroup := sorry
theorem gL_law_L_addGroup : GoodIn wsL_law (va_wsS RL 182 yL_addGroup wsL_addGroup) := sorry
theorem ggL_law_X6_addGroup : GoodIn wsL_law wsX6_addGroup := sorry
theorem gL_law_X6_addGroup : GoodIn wsL_law (wsV RL 184 RX6 yX6_addGroup wsX6_addGroup) := sorry
theorem ggL_law_L_setMember : GoodIn wsL_law wsL_setMember := sorry
theorem gL_law_L_setMember : GoodIn wsL_law (va_wsS RL 185 yL_setMember wsL_setMember) := sorry
theorem ggL_law_X6_setMember : GoodIn wsL_law wsX6_setMember := sorry
theorem gL_law_X6_setMember : GoodIn wsL_law (wsV RL 188 RX6 yX6_setMember wsX6_setMember) := sorry
theorem ggL_law_L_setFader : GoodIn wsL_law wsL_setFader := sorry
theorem gL_law_L_setFader : GoodIn wsL_law (va_wsS RL 189 yL_setFader wsL_setFader) := sorry
theorem ggL_law_X6_setFader : GoodIn wsL_law wsX6_setFader := sorry
theorem gL_law_X6_setFader : GoodIn wsL_law (wsV RL 191 RX6 yX6_setFader wsX6_setFader) := sorry
theorem ggL_law_L_setLatest : GoodIn wsL_law wsL_setLatest := sorry
theorem gL_law_L_setLatest : GoodIn wsL_law (va_wsS RL 192 yL_setLatest wsL_setLatest) := sorry
theorem ggL_law_X6_setLatest : GoodIn wsL_law wsX6_setLatest := sorry
theorem gL_law_X6_setLatest : GoodIn wsL_law (wsV RL 194 RX6 yX6_setLatest wsX6_setLatest) := sorry
theorem ggL_law_L_latestSource : GoodIn wsL_law wsL_latestSource := sorry
theorem gL_law_L_latestSource : GoodIn wsL_law (va_wsS RL 195 yL_latestSource wsL_latestSource) := sorry
theorem ggL_law_X6_latestSource : GoodIn wsL_law wsX6_latestSource := sorry
theorem gL_law_X6_latestSource : GoodIn wsL_law (wsV RL 197 RX6 yX6_latestSource wsX6_latestSource) := sorry
theorem ggL_law_L_baseLevel : GoodIn wsL_law wsL_baseLevel := sorry
theorem gL_law_L_baseLevel : GoodIn wsL_law (va_wsS RL 198 yL_baseLevel wsL_baseLevel) := sorry
theorem ggL_law_X6_baseLevel : GoodIn wsL_law wsX6_baseLevel := sorry
theorem gL_law_X6_baseLevel : GoodIn wsL_law (wsV RL 200 RX6 yX6_baseLevel wsX6_baseLevel) := sorry
theorem ggL_law_L_addEffect : GoodIn wsL_law wsL_addEffect := sorry
theorem gL_law_L_addEffect : GoodIn wsL_law (va_wsS RL 201 yL_addEffect wsL_addEffect) := sorry
theorem ggL_law_X6_addEffect : GoodIn wsL_law wsX6_addEffect := sorry
theorem gL_law_X6_addEffect : GoodIn wsL_law (wsV RL 204 RX6 yX6_addEffect wsX6_addEffect) := sorry
theorem ggL_law_L_startEffect : GoodIn wsL_law wsL_startEffect := sorry
theorem gL_law_L_startEffect : GoodIn wsL_law (va_wsS RL 205 yL_startEffect wsL_startEffect) := sorry
theorem ggL_law_X6_startEffect : GoodIn wsL_law wsX6_startEffect := sorry
theorem gL_law_X6_startEffect : GoodIn wsL_law (wsV RL 207 RX6 yX6_startEffect wsX6_startEffect) := sorry
theorem ggL_law_L_stopEffect : GoodIn wsL_law wsL_stopEffect := sorry
theorem gL_law_L_stopEffect : GoodIn wsL_law (va_wsS RL 208 yL_stopEffect wsL_stopEffect) := sorry
theorem ggL_law_X6_stopEffect : GoodIn wsL_law wsX6_stopEffect := sorry
theorem gL_law_X6_stopEffect : GoodIn wsL_law (wsV RL 210 RX6 yX6_stopEffect wsX6_stopEffect) := sorry
theorem ggL_law_L_effectOn : GoodIn wsL_law wsL_effectOn := sorry
theorem gL_law_L_effectOn : GoodIn wsL_law (va_wsS RL 211 yL_effectOn wsL_effectOn) := sorry
theorem ggL_law_X6_effectOn : GoodIn wsL_law wsX6_effectOn := sorry
theorem gL_law_X6_effectOn : GoodIn wsL_law (wsV RL 213 RX6 yX6_effectOn wsX6_effectOn) := sorry
theorem ggL_law_L_park : GoodIn wsL_law wsL_park := sorry
theorem gL_law_L_park : GoodIn wsL_law (va_wsS RL 214 yL_park wsL_park) := sorry
theorem ggL_law_X6_park : GoodIn wsL_law wsX6_park := sorry
theorem gL_law_X6_park : GoodIn wsL_law (wsV RL 216 RX6 yX6_park wsX6_park) := sorry
theorem ggL_law_L_unpark : GoodIn wsL_law wsL_unpark := sorry
theorem gL_law_L_unpark : GoodIn wsL_law (va_wsS RL 217 yL_unpark wsL_unpark) := sorry
theorem ggL_law_X6_unpark : GoodIn wsL_law wsX6_unpark := sorry
theorem gL_law_X6_unpark : GoodIn wsL_law (wsV RL 219 RX6 yX6_unpark wsX6_unpark) := sorry
theorem ggL_law_L_setMaster : GoodIn wsL_law wsL_setMaster := sorry
theorem gL_law_L_setMaster : GoodIn wsL_law (va_wsS RL 220 yL_setMaster wsL_setMaster) := sorry
theorem ggL_law_X6_setMaster : GoodIn wsL_law wsX6_setMaster := sorry
theorem gL_law_X6_setMaster : GoodIn wsL_law (wsV RL 222 RX6 yX6_setMaster wsX6_setMaster) := sorry
theorem ggL_law_L_level : GoodIn wsL_law wsL_level := sorry
theorem gL_law_L_level : GoodIn wsL_law (va_wsS RL 223 yL_level wsL_level) := sorry
theorem ggL_law_X6_level : GoodIn wsL_law wsX6_level := sorry
theorem gL_law_X6_level : GoodIn wsL_law (wsV RL 225 RX6 yX6_level wsX6_level) := sorry
theorem ggL_law_L_levelAlone : GoodIn wsL_law wsL_levelAlone := sorry
theorem gL_law_L_levelAlone : GoodIn wsL_law (va_wsS RL 226 yL_levelAlone wsL_levelAlone) := sorry
theorem ggL_law_X6_levelAlone : GoodIn wsL_law wsX6_levelAlone := sorry
theorem gL_law_X6_levelAlone : GoodIn wsL_law (wsV RL 228 RX6 yX6_levelAlone wsX6_levelAlone) := sorry
theorem ggL_law_L_channelByLevel : GoodIn wsL_law wsL_channelByLevel := sorry
theorem gL_law_L_channelByLevel : GoodIn wsL_law (va_wsS RL 229 yL_channelByLevel wsL_channelByLevel) := sorry
theorem ggL_law_X6_channelByLevel : GoodIn wsL_law wsX6_channelByLevel := sorry
theorem gL_law_X6_channelByLevel : GoodIn wsL_law (wsV RL 231 RX6 yX6_channelByLevel wsX6_channelByLevel) := sorry
theorem ggL_law_X5_energy : GoodIn wsL_law wsX5_energy := sorry
theorem gL_law_X5_energy : GoodIn wsL_law (wsV RL 232 RX5 yX5_energy wsX5_energy) := sorry
theorem ggL_law_X6_energy : GoodIn wsL_law wsX6_energy := sorry
theorem gL_law_X6_energy : GoodIn wsL_law (wsV RL 236 RX6 yX6_energy wsX6_energy) := sorry
theorem ggL_law_X5_litShare : GoodIn wsL_law wsX5_litShare := sorry
theorem gL_law_X5_litShare : GoodIn wsL_law (wsV RL 237 RX5 yX5_litShare wsX5_litShare) := sorry
theorem ggL_law_X6_litShare : GoodIn wsL_law wsX6_litShare := sorry
theorem gL_law_X6_litShare : GoodIn wsL_law (wsV RL 241 RX6 yX6_litShare wsX6_litShare) := sorry
theorem ggL_law_L_meanLevel : GoodIn wsL_law wsL_meanLevel := sorry
theorem gL_law_L_meanLevel : GoodIn wsL_law (va_wsS RL 242 yL_meanLevel wsL_meanLevel) := sorry
theorem ggL_law_X6_meanLevel : GoodIn wsL_law wsX6_meanLevel := sorry
theorem gL_law_X6_meanLevel : GoodIn wsL_law (wsV RL 245 RX6 yX6_meanLevel wsX6_meanLevel) := sorry
theorem ggL_law_L_addStep : GoodIn wsL_law wsL_addStep := sorry
theorem gL_law_L_addStep : GoodIn wsL_law (va_wsS RL 246 yL_addStep wsL_addStep) := sorry
theorem ggL_law_X6_addStep : GoodIn wsL_law wsX6_addStep := sorry
theorem gL_law_X6_addStep : GoodIn wsL_law (wsV RL 249 RX6 yX6_addStep wsX6_addStep) := sorry
theorem ggL_law_X5_clearMacro : GoodIn wsL_law wsX5_clearMacro := sorry
theorem gL_law_X5_clearMacro : GoodIn wsL_law (wsV RL 250 RX5 yX5_clearMacro wsX5_clearMacro) := sorry
theorem ggL_law_X6_clearMacro : GoodIn wsL_law wsX6_clearMacro := sorry
theorem gL_law_X6_clearMacro : GoodIn wsL_law (wsV RL 253 RX6 yX6_clearMacro wsX6_clearMacro) := sorry
theorem ggL_law_X5_runMacro : GoodIn wsL_law wsX5_runMacro := sorry
theorem gL_law_X5_runMacro : GoodIn wsL_law (wsV RL 254 RX5 yX5_runMacro wsX5_runMacro) := sorry
theorem ggL_law_X6_runMacro : GoodIn wsL_law wsX6_runMacro := sorry
theorem gL_law_X6_runMacro : GoodIn wsL_law (wsV RL 257 RX6 yX6_runMacro wsX6_runMacro) := sorry
theorem ggL_law_L_macroFault : GoodIn wsL_law wsL_macroFault := sorry
theorem gL_law_L_macroFault : GoodIn wsL_law (va_wsS RL 258 yL_macroFault wsL_macroFault) := sorry
theorem ggL_law_X6_macroFault : GoodIn wsL_law wsX6_macroFault := sorry
theorem gL_law_X6_macroFault : GoodIn wsL_law (wsV RL 260 RX6 yX6_macroFault wsX6_macroFault) := sorry
theorem dL_addCue_0 : decode cL_addCue 0 = .ok (.aload 4, 2) := sorry
theorem dL_addCue_2 : decode cL_addCue 2 = .ok (.iconst 0, 1) := sorry
theorem dL_addCue_3 : decode cL_addCue 3 = .ok (.aload_n 0, 1) := sorry
theorem dL_addCue_4 : decode cL_addCue 4 = .ok (.iload_n 1, 1) := sorry
theorem dL_addCue_5 : decode cL_addCue 5 = .ok (.iload_n 2, 1) := sorry
theorem dL_addCue_6 : decode cL_addCue 6 = .ok (.iload_n 3, 1) := sorry
theorem dL_addCue_7 : decode cL_addCue 7 = .ok (.invokevirtual 7, 3) := sorry
theorem dL_addCue_10 : decode cL_addCue 10 = .ok (.i2l, 1) := sorry
theorem dL_addCue_11 : decode cL_addCue 11 = .ok (.lastore, 1) := sorry
theorem dL_addCue_12 : decode cL_addCue 12 = .ok (.goto 15, 3) := sorry
theorem dL_addCue_15 : decode cL_addCue 15 = .ok (.astore 5, 2) := sorry
theorem dL_addCue_17 : decode cL_addCue 17 = .ok (.iconst 1, 1) := sorry
theorem dL_addCue_18 : decode cL_addCue 18 = .ok (.ireturn, 1) := sorry
theorem dL_addCue_19 : decode cL_addCue 19 = .ok (.astore 5, 2) := sorry
theorem dL_addCue_21 : decode cL_addCue 21 = .ok (.iconst 2, 1) := sorry
theorem dL_addCue_22 : decode cL_addCue 22 = .ok (.ireturn, 1) := sorry
theorem dL_addCue_23 : decode cL_addCue 23 = .ok (.astore 5, 2) := sorry
theorem dL_addCue_25 : decode cL_addCue 25 = .ok (.iconst 3, 1) := sorry
theorem dL_addCue_26 : decode cL_addCue 26 = .ok (.ireturn, 1) := sorry
theorem dL_addCue_27 : decode cL_addCue 27 = .ok (.iconst 0, 1) := sorry
theorem dL_addCue_28 : decode cL_addCue 28 = .ok (.ireturn, 1) := sorry
theorem dL_removeCue_0 : decode cL_removeCue 0 = .ok (.aload_n 2, 1) := sorry
theorem dL_removeCue_1 : decode cL_removeCue 1 = .ok (.iconst 0, 1) := sorry
theorem dL_removeCue_2 : decode cL_removeCue 2 = .ok (.aload_n 0, 1) := sorry
theorem dL_removeCue_3 : decode cL_removeCue 3 = .ok (.iload_n 1, 1) := sorry
theorem dL_removeCue_4 : decode cL_removeCue 4 = .ok (.invokevirtual 19, 3) := sorry
theorem dL_removeCue_7 : decode cL_removeCue 7 = .ok (.i2l, 1) := sorry
theorem dL_removeCue_8 : decode cL_removeCue 8 = .ok (.lastore, 1) := sorry
theorem dL_removeCue_9 : decode cL_removeCue 9 = .ok (.goto 6, 3) := sorry
theorem dL_removeCue_12 : decode cL_removeCue 12 = .ok (.astore_n 3, 1) := sorry
theorem dL_removeCue_13 : decode cL_removeCue 13 = .ok (.iconst 1, 1) := sorry
theorem dL_removeCue_14 : decode cL_removeCue 14 = .ok (.ireturn, 1) := sorry
theorem dL_removeCue_15 : decode cL_removeCue 15 = .ok (.iconst 0, 1) := sorry
theorem dL_removeCue_16 : decode cL_removeCue 16 = .ok (.ireturn, 1) := sorry
theorem dL_setChange_0 : decode cL_setChange 0 = .ok (.aload 4, 2) := sorry
theorem dL_setChange_2 : decode cL_setChange 2 = .ok (.iconst 0, 1) := sorry
theorem dL_setChange_3 : decode cL_setChange 3 = .ok (.aload_n 0, 1) := sorry
theorem dL_setChange_4 : decode cL_setChange 4 = .ok (.iload_n 1, 1) := sorry
theorem dL_setChange_5 : decode cL_setChange 5 = .ok (.iload_n 2, 1) := sorry
theorem dL_setChange_6 : decode cL_setChange 6 = .ok (.iload_n 3, 1) := sorry
theorem dL_setChange_7 : decode cL_setChange 7 = .ok (.invokevirtual 25, 3) := sorry
theorem dL_setChange_10 : decode cL_setChange 10 = .ok (.i2l, 1) := sorry
theorem dL_setChange_11 : decode cL_setChange 11 = .ok (.lastore, 1) := sorry
theorem dL_setChange_12 : decode cL_setChange 12 = .ok (.goto 15, 3) := sorry
theorem dL_setChange_15 : decode cL_setChange 15 = .ok (.astore 5, 2) := sorry
theorem dL_setChange_17 : decode cL_setChange 17 = .ok (.iconst 1, 1) := sorry
theorem dL_setChange_18 : decode cL_setChange 18 = .ok (.ireturn, 1) := sorry
theorem dL_setChange_19 : decode cL_setChange 19 = .ok (.astore 5, 2) := sorry
theorem dL_setChange_21 : decode cL_setChange 21 = .ok (.iconst 2, 1) := sorry
theorem dL_setChange_22 : decode cL_setChange 22 = .ok (.ireturn, 1) := sorry
theorem dL_setChange_23 : decode cL_setChange 23 = .ok (.astore 5, 2) := sorry
theorem dL_setChange_25 : decode cL_setChange 25 = .ok (.iconst 3, 1) := sorry
theorem dL_setChange_26 : decode cL_setChange 26 = .ok (.ireturn, 1) := sorry
theorem dL_setChange_27 : decode cL_setChange 27 = .ok (.iconst 0, 1) := sorry
theorem dL_setChange_28 : decode cL_setChange 28 = .ok (.ireturn, 1) := sorry
theorem dL_removeChange_0 : decode cL_removeChange 0 = .ok (.aload_n 3, 1) := sorry
theorem dL_removeChange_1 : decode cL_removeChange 1 = .ok (.iconst 0, 1) := sorry
theorem dL_removeChange_2 : decode cL_removeChange 2 = .ok (.aload_n 0, 1) := sorry
theorem dL_removeChange_3 : decode cL_removeChange 3 = .ok (.iload_n 1, 1) := sorry
theorem dL_removeChange_4 : decode cL_removeChange 4 = .ok (.iload_n 2, 1) := sorry
theorem dL_removeChange_5 : decode cL_removeChange 5 = .ok (.invokevirtual 31, 3) := sorry
theorem dL_removeChange_8 : decode cL_removeChange 8 = .ok (.i2l, 1) := sorry
theorem dL_removeChange_9 : decode cL_removeChange 9 = .ok (.lastore, 1) := sorry
theorem dL_removeChange_10 : decode cL_removeChange 10 = .ok (.goto 11, 3) := sorry
theorem dL_removeChange_13 : decode cL_removeChange 13 = .ok (.astore 4, 2) := sorry
theorem dL_removeChange_15 : decode cL_removeChange 15 = .ok (.iconst 1, 1) := sorry
theorem dL_removeChange_16 : decode cL_removeChange 16 = .ok (.ireturn, 1) := sorry
theorem dL_removeChange_17 : decode cL_removeChange 17 = .ok (.astore 4, 2) := sorry
theorem dL_removeChange_19 : decode cL_removeChange 19 = .ok (.iconst 2, 1) := sorry
theorem dL_removeChange_20 : decode cL_removeChange 20 = .ok (.ireturn, 1) := sorry
theorem dL_removeChange_21 : decode cL_removeChange 21 = .ok (.iconst 0, 1) := sorry
theorem dL_removeChange_22 : decode cL_removeChange 22 = .ok (.ireturn, 1) := sorry
theorem dL_setBlock_0 : decode cL_setBlock 0 = .ok (.aload_n 3, 1) := sorry
theorem dL_setBlock_1 : decode cL_setBlock 1 = .ok (.iconst 0, 1) := sorry
theorem dL_setBlock_2 : decode cL_setBlock 2 = .ok (.aload_n 0, 1) := sorry
theorem dL_setBlock_3 : decode cL_setBlock 3 = .ok (.iload_n 1, 1) := sorry
theorem dL_setBlock_4 : decode cL_setBlock 4 = .ok (.iload_n 2, 1) := sorry
theorem dL_setBlock_5 : decode cL_setBlock 5 = .ok (.invokevirtual 35, 3) := sorry
theorem dL_setBlock_8 : decode cL_setBlock 8 = .ok (.ifCond .eq 7, 3) := sorry
theorem dL_setBlock_11 : decode cL_setBlock 11 = .ok (.lconst 1, 1) := sorry
theorem dL_setBlock_12 : decode cL_setBlock 12 = .ok (.goto 4, 3) := sorry
theorem dL_setBlock_15 : decode cL_setBlock 15 = .ok (.lconst 0, 1) := sorry
theorem dL_setBlock_16 : decode cL_setBlock 16 = .ok (.lastore, 1) := sorry
theorem dL_setBlock_17 : decode cL_setBlock 17 = .ok (.goto 7, 3) := sorry
theorem dL_setBlock_20 : decode cL_setBlock 20 = .ok (.astore 4, 2) := sorry
theorem dL_setBlock_22 : decode cL_setBlock 22 = .ok (.iconst 1, 1) := sorry
theorem dL_setBlock_23 : decode cL_setBlock 23 = .ok (.ireturn, 1) := sorry
theorem dL_setBlock_24 : decode cL_setBlock 24 = .ok (.iconst 0, 1) := sorry
theorem dL_setBlock_25 : decode cL_setBlock 25 = .ok (.ireturn, 1) := sorry
theorem dL_trackedLevel_0 : decode cL_trackedLevel 0 = .ok (.aload_n 3, 1) := sorry
theorem dL_trackedLevel_1 : decode cL_trackedLevel 1 = .ok (.iconst 0, 1) := sorry
theorem dL_trackedLevel_2 : decode cL_trackedLevel 2 = .ok (.aload_n 0, 1) := sorry
theorem dL_trackedLevel_3 : decode cL_trackedLevel 3 = .ok (.iload_n 1, 1) := sorry
theorem dL_trackedLevel_4 : decode cL_trackedLevel 4 = .ok (.iload_n 2, 1) := sorry
theorem dL_trackedLevel_5 : decode cL_trackedLevel 5 = .ok (.invokevirtual 39, 3) := sorry
theorem dL_trackedLevel_8 : decode cL_trackedLevel 8 = .ok (.i2l, 1) := sorry
theorem dL_trackedLevel_9 : decode cL_trackedLevel 9 = .ok (.lastore, 1) := sorry
theorem dL_trackedLevel_10 : decode cL_trackedLevel 10 = .ok (.goto 11, 3) := sorry
theorem dL_trackedLevel_13 : decode cL_trackedLevel 13 = .ok (.astore 4, 2) := sorry
theorem dL_trackedLevel_15 : decode cL_trackedLevel 15 = .ok (.iconst 1, 1) := sorry
theorem dL_trackedLevel_16 : decode cL_trackedLevel 16 = .ok (.ireturn, 1) := sorry
theorem dL_trackedLevel_17 : decode cL_trackedLevel 17 = .ok (.astore 4, 2) := sorry
theorem dL_trackedLevel_19 : decode cL_trackedLevel 19 = .ok (.iconst 2, 1) := sorry
theorem dL_trackedLevel_20 : decode cL_trackedLevel 20 = .ok (.ireturn, 1) := sorry
theorem dL_trackedLevel_21 : decode cL_trackedLevel 21 = .ok (.iconst 0, 1) := sorry
theorem dL_trackedLevel_22 : decode cL_trackedLevel 22 = .ok (.ireturn, 1) := sorry
theorem dL_go_0 : decode cL_go 0 = .ok (.aload_n 1, 1) := sorry
theorem dL_go_1 : decode cL_go 1 = .ok (.iconst 0, 1) := sorry
theorem dL_go_2 : decode cL_go 2 = .ok (.aload_n 0, 1) := sorry
theorem dL_go_3 : decode cL_go 3 = .ok (.invokevirtual 42, 3) := sorry
theorem dL_go_6 : decode cL_go 6 = .ok (.i2l, 1) := sorry
theorem dL_go_7 : decode cL_go 7 = .ok (.lastore, 1) := sorry
theorem dL_go_8 : decode cL_go 8 = .ok (.goto 6, 3) := sorry
theorem dL_go_11 : decode cL_go 11 = .ok (.astore_n 2, 1) := sorry
theorem dL_go_12 : decode cL_go 12 = .ok (.iconst 1, 1) := sorry
theorem dL_go_13 : decode cL_go 13 = .ok (.ireturn, 1) := sorry
theorem dL_go_14 : decode cL_go 14 = .ok (.iconst 0, 1) := sorry
theorem dL_go_15 : decode cL_go 15 = .ok (.ireturn, 1) := sorry
theorem dL_back_0 : decode cL_back 0 = .ok (.aload_n 1, 1) := sorry
theorem dL_back_1 : decode cL_back 1 = .ok (.iconst 0, 1) := sorry
theorem dL_back_2 : decode cL_back 2 = .ok (.aload_n 0, 1) := sorry
theorem dL_back_3 : decode cL_back 3 = .ok (.invokevirtual 46, 3) := sorry
theorem dL_back_6 : decode cL_back 6 = .ok (.i2l, 1) := sorry
theorem dL_back_7 : decode cL_back 7 = .ok (.lastore, 1) := sorry
theorem dL_back_8 : decode cL_back 8 = .ok (.goto 6, 3) := sorry
theorem dL_back_11 : decode cL_back 11 = .ok (.astore_n 2, 1) := sorry
theorem dL_back_12 : decode cL_back 12 = .ok (.iconst 1, 1) := sorry
theorem dL_back_13 : decode cL_back 13 = .ok (.ireturn, 1) := sorry
theorem dL_back_14 : decode cL_back 14 = .ok (.iconst 0, 1) := sorry
theorem dL_back_15 : decode cL_back 15 = .ok (.ireturn, 1) := sorry
theorem dL_goTo_0 : decode cL_goTo 0 = .ok (.aload_n 2, 1) := sorry
theorem dL_goTo_1 : decode cL_goTo 1 = .ok (.iconst 0, 1) := sorry
theorem dL_goTo_2 : decode cL_goTo 2 = .ok (.aload_n 0, 1) := sorry
theorem dL_goTo_3 : decode cL_goTo 3 = .ok (.iload_n 1, 1) := sorry
theorem dL_goTo_4 : decode cL_goTo 4 = .ok (.invokevirtual 49, 3) := sorry
theorem dL_goTo_7 : decode cL_goTo 7 = .ok (.i2l, 1) := sorry
theorem dL_goTo_8 : decode cL_goTo 8 = .ok (.lastore, 1) := sorry
theorem dL_goTo_9 : decode cL_goTo 9 = .ok (.goto 6, 3) := sorry
theorem dL_goTo_12 : decode cL_goTo 12 = .ok (.astore_n 3, 1) := sorry
theorem dL_goTo_13 : decode cL_goTo 13 = .ok (.iconst 1, 1) := sorry
theorem dL_goTo_14 : decode cL_goTo 14 = .ok (.ireturn, 1) := sorry
theorem dL_goTo_15 : decode cL_goTo 15 = .ok (.iconst 0, 1) := sorry
theorem dL_goTo_16 : decode cL_goTo 16 = .ok (.ireturn, 1) := sorry
theorem dL_pass_0 : decode cL_pass 0 = .ok (.aload_n 2, 1) := sorry
theorem dL_pass_1 : decode cL_pass 1 = .ok (.iconst 0, 1) := sorry
theorem dL_pass_2 : decode cL_pass 2 = .ok (.aload_n 0, 1) := sorry
theorem dL_pass_3 : decode cL_pass 3 = .ok (.iload_n 1, 1) := sorry
theorem dL_pass_4 : decode cL_pass 4 = .ok (.invokevirtual 52, 3) := sorry
theorem dL_pass_7 : decode cL_pass 7 = .ok (.i2l, 1) := sorry
theorem dL_pass_8 : decode cL_pass 8 = .ok (.lastore, 1) := sorry
theorem dL_pass_9 : decode cL_pass 9 = .ok (.goto 6, 3) := sorry
theorem dL_pass_12 : decode cL_pass 12 = .ok (.astore_n 3, 1) := sorry
theorem dL_pass_13 : decode cL_pass 13 = .ok (.iconst 1, 1) := sorry
theorem dL_pass_14 : decode cL_pass 14 = .ok (.ireturn, 1) := sorry
theorem dL_pass_15 : decode cL_pass 15 = .ok (.iconst 0, 1) := sorry
theorem dL_pass_16 : decode cL_pass 16 = .ok (.ireturn, 1) := sorry
theorem dL_cueLevel_0 : decode cL_cueLevel 0 = .ok (.aload_n 2, 1) := sorry
theorem dL_cueLevel_1 : decode cL_cueLevel 1 = .ok (.iconst 0, 1) := sorry
theorem dL_cueLevel_2 : decode cL_cueLevel 2 = .ok (.aload_n 0, 1) := sorry
theorem dL_cueLevel_3 : decode cL_cueLevel 3 = .ok (.iload_n 1, 1) := sorry
theorem dL_cueLevel_4 : decode cL_cueLevel 4 = .ok (.invokevirtual 55, 3) := sorry
theorem dL_cueLevel_7 : decode cL_cueLevel 7 = .ok (.i2l, 1) := sorry
theorem dL_cueLevel_8 : decode cL_cueLevel 8 = .ok (.lastore, 1) := sorry
theorem dL_cueLevel_9 : decode cL_cueLevel 9 = .ok (.goto 6, 3) := sorry
theorem dL_cueLevel_12 : decode cL_cueLevel 12 = .ok (.astore_n 3, 1) := sorry
theorem dL_cueLevel_13 : decode cL_cueLevel 13 = .ok (.iconst 1, 1) := sorry
theorem dL_cueLevel_14 : decode cL_cueLevel 14 = .ok (.ireturn, 1) := sorry
theorem dL_cueLevel_15 : decode cL_cueLevel 15 = .ok (.iconst 0, 1) := sorry
theorem dL_cueLevel_16 : decode cL_cueLevel 16 = .ok (.ireturn, 1) := sorry
theorem dL_addGroup_0 : decode cL_addGroup 0 = .ok (.aload_n 1, 1) := sorry
theorem dL_addGroup_1 : decode cL_addGroup 1 = .ok (.iconst 0, 1) := sorry
theorem dL_addGroup_2 : decode cL_addGroup 2 = .ok (.aload_n 0, 1) := sorry
theorem dL_addGroup_3 : decode cL_addGroup 3 = .ok (.invokevirtual 58, 3) := sorry
theorem dL_addGroup_6 : decode cL_addGroup 6 = .ok (.i2l, 1) := sorry
theorem dL_addGroup_7 : decode cL_addGroup 7 = .ok (.lastore, 1) := sorry
theorem dL_addGroup_8 : decode cL_addGroup 8 = .ok (.goto 6, 3) := sorry
theorem dL_addGroup_11 : decode cL_addGroup 11 = .ok (.astore_n 2, 1) := sorry
theorem dL_addGroup_12 : decode cL_addGroup 12 = .ok (.iconst 1, 1) := sorry
theorem dL_addGroup_13 : decode cL_addGroup 13 = .ok (.ireturn, 1) := sorry
theorem dL_addGroup_14 : decode cL_addGroup 14 = .ok (.iconst 0, 1) := sorry
theorem dL_addGroup_15 : decode cL_addGroup 15 = .ok (.ireturn, 1) := sorry
theorem dL_setMember_0 : decode cL_setMember 0 = .ok (.aload 4, 2) := sorry
theorem dL_setMember_2 : decode cL_setMember 2 = .ok (.iconst 0, 1) := sorry
theorem dL_setMember_3 : decode cL_setMember 3 = .ok (.aload_n 0, 1) := sorry
theorem dL_setMember_4 : decode cL_setMember 4 = .ok (.iload_n 1, 1) := sorry
theorem dL_setMember_5 : decode cL_setMember 5 = .ok (.iload_n 2, 1) := sorry
theorem dL_setMember_6 : decode cL_setMember 6 = .ok (.iload_n 3, 1) := sorry
theorem dL_setMember_7 : decode cL_setMember 7 = .ok (.invokevirtual 61, 3) := sorry
theorem dL_setMember_10 : decode cL_setMember 10 = .ok (.ifCond .eq 7, 3) := sorry
theorem dL_setMember_13 : decode cL_setMember 13 = .ok (.lconst 1, 1) := sorry
theorem dL_setMember_14 : decode cL_setMember 14 = .ok (.goto 4, 3) := sorry
theorem dL_setMember_17 : decode cL_setMember 17 = .ok (.lconst 0, 1) := sorry
theorem dL_setMember_18 : decode cL_setMember 18 = .ok (.lastore, 1) := sorry
theorem dL_setMember_19 : decode cL_setMember 19 = .ok (.goto 7, 3) := sorry
theorem dL_setMember_22 : decode cL_setMember 22 = .ok (.astore 5, 2) := sorry
theorem dL_setMember_24 : decode cL_setMember 24 = .ok (.iconst 1, 1) := sorry
theorem dL_setMember_25 : decode cL_setMember 25 = .ok (.ireturn, 1) := sorry
theorem dL_setMember_26 : decode cL_setMember 26 = .ok (.iconst 0, 1) := sorry
theorem dL_setMember_27 : decode cL_setMember 27 = .ok (.ireturn, 1) := sorry
theorem dL_setFader_0 : decode cL_setFader 0 = .ok (.aload_n 3, 1) := sorry
theorem dL_setFader_1 : decode cL_setFader 1 = .ok (.iconst 0, 1) := sorry
theorem dL_setFader_2 : decode cL_setFader 2 = .ok (.aload_n 0, 1) := sorry
theorem dL_setFader_3 : decode cL_setFader 3 = .ok (.iload_n 1, 1) := sorry
theorem dL_setFader_4 : decode cL_setFader 4 = .ok (.iload_n 2, 1) := sorry
theorem dL_setFader_5 : decode cL_setFader 5 = .ok (.invokevirtual 65, 3) := sorry
theorem dL_setFader_8 : decode cL_setFader 8 = .ok (.i2l, 1) := sorry
theorem dL_setFader_9 : decode cL_setFader 9 = .ok (.lastore, 1) := sorry
theorem dL_setFader_10 : decode cL_setFader 10 = .ok (.goto 11, 3) := sorry
theorem dL_setFader_13 : decode cL_setFader 13 = .ok (.astore 4, 2) := sorry
theorem dL_setFader_15 : decode cL_setFader 15 = .ok (.iconst 1, 1) := sorry
theorem dL_setFader_16 : decode cL_setFader 16 = .ok (.ireturn, 1) := sorry
theorem dL_setFader_17 : decode cL_setFader 17 = .ok (.astore 4, 2) := sorry
theorem dL_setFader_19 : decode cL_setFader 19 = .ok (.iconst 2, 1) := sorry
theorem dL_setFader_20 : decode cL_setFader 20 = .ok (.ireturn, 1) := sorry
theorem dL_setFader_21 : decode cL_setFader 21 = .ok (.iconst 0, 1) := sorry
theorem dL_setFader_22 : decode cL_setFader 22 = .ok (.ireturn, 1) := sorry
theorem dL_setLatest_0 : decode cL_setLatest 0 = .ok (.aload_n 3, 1) := sorry
theorem dL_setLatest_1 : decode cL_setLatest 1 = .ok (.iconst 0, 1) := sorry
theorem dL_setLatest_2 : decode cL_setLatest 2 = .ok (.aload_n 0, 1) := sorry
theorem dL_setLatest_3 : decode cL_setLatest 3 = .ok (.iload_n 1, 1) := sorry
theorem dL_setLatest_4 : decode cL_setLatest 4 = .ok (.iload_n 2, 1) := sorry
theorem dL_setLatest_5 : decode cL_setLatest 5 = .ok (.invokevirtual 68, 3) := sorry
theorem dL_setLatest_8 : decode cL_setLatest 8 = .ok (.ifCond .eq 7, 3) := sorry
theorem dL_setLatest_11 : decode cL_setLatest 11 = .ok (.lconst 1, 1) := sorry
theorem dL_setLatest_12 : decode cL_setLatest 12 = .ok (.goto 4, 3) := sorry
theorem dL_setLatest_15 : decode cL_setLatest 15 = .ok (.lconst 0, 1) := sorry
theorem dL_setLatest_16 : decode cL_setLatest 16 = .ok (.lastore, 1) := sorry
theorem dL_setLatest_17 : decode cL_setLatest 17 = .ok (.goto 7, 3) := sorry
theorem dL_setLatest_20 : decode cL_setLatest 20 = .ok (.astore 4, 2) := sorry
theorem dL_setLatest_22 : decode cL_setLatest 22 = .ok (.iconst 1, 1) := sorry
theorem dL_setLatest_23 : decode cL_setLatest 23 = .ok (.ireturn, 1) := sorry
theorem dL_setLatest_24 : decode cL_setLatest 24 = .ok (.iconst 0, 1) := sorry
theorem dL_setLatest_25 : decode cL_setLatest 25 = .ok (.ireturn, 1) := sorry
theorem dL_latestSource_0 : decode cL_latestSource 0 = .ok (.aload_n 2, 1) := sorry
theorem dL_latestSource_1 : decode cL_latestSource 1 = .ok (.iconst 0, 1) := sorry
theorem dL_latestSource_2 : decode cL_latestSource 2 = .ok (.aload_n 0, 1) := sorry
theorem dL_latestSource_3 : decode cL_latestSource 3 = .ok (.iload_n 1, 1) := sorry
theorem dL_latestSource_4 : decode cL_latestSource 4 = .ok (.invokevirtual 71, 3) := sorry
theorem dL_latestSource_7 : decode cL_latestSource 7 = .ok (.i2l, 1) := sorry
theorem dL_latestSource_8 : decode cL_latestSource 8 = .ok (.lastore, 1) := sorry
theorem dL_latestSource_9 : decode cL_latestSource 9 = .ok (.goto 9, 3) := sorry
theorem dL_latestSource_12 : decode cL_latestSource 12 = .ok (.astore_n 3, 1) := sorry
theorem dL_latestSource_13 : decode cL_latestSource 13 = .ok (.iconst 1, 1) := sorry
theorem dL_latestSource_14 : decode cL_latestSource 14 = .ok (.ireturn, 1) := sorry
theorem dL_latestSource_15 : decode cL_latestSource 15 = .ok (.astore_n 3, 1) := sorry
theorem dL_latestSource_16 : decode cL_latestSource 16 = .ok (.iconst 2, 1) := sorry
theorem dL_latestSource_17 : decode cL_latestSource 17 = .ok (.ireturn, 1) := sorry
theorem dL_latestSource_18 : decode cL_latestSource 18 = .ok (.iconst 0, 1) := sorry
theorem dL_latestSource_19 : decode cL_latestSource 19 = .ok (.ireturn, 1) := sorry
theorem dL_baseLevel_0 : decode cL_baseLevel 0 = .ok (.aload_n 2, 1) := sorry
theorem dL_baseLevel_1 : decode cL_baseLevel 1 = .ok (.iconst 0, 1) := sorry
theorem dL_baseLevel_2 : decode cL_baseLevel 2 = .ok (.aload_n 0, 1) := sorry
theorem dL_baseLevel_3 : decode cL_baseLevel 3 = .ok (.iload_n 1, 1) := sorry
theorem dL_baseLevel_4 : decode cL_baseLevel 4 = .ok (.invokevirtual 74, 3) := sorry
theorem dL_baseLevel_7 : decode cL_baseLevel 7 = .ok (.i2l, 1) := sorry
theorem dL_baseLevel_8 : decode cL_baseLevel 8 = .ok (.lastore, 1) := sorry
theorem dL_baseLevel_9 : decode cL_baseLevel 9 = .ok (.goto 6, 3) := sorry
theorem dL_baseLevel_12 : decode cL_baseLevel 12 = .ok (.astore_n 3, 1) := sorry
theorem dL_baseLevel_13 : decode cL_baseLevel 13 = .ok (.iconst 1, 1) := sorry
theorem dL_baseLevel_14 : decode cL_baseLevel 14 = .ok (.ireturn, 1) := sorry
theorem dL_baseLevel_15 : decode cL_baseLevel 15 = .ok (.iconst 0, 1) := sorry
theorem dL_baseLevel_16 : decode cL_baseLevel 16 = .ok (.ireturn, 1) := sorry
theorem dL_addEffect_0 : decode cL_addEffect 0 = .ok (.aload 6, 2) := sorry
theorem dL_addEffect_2 : decode cL_addEffect 2 = .ok (.iconst 0, 1) := sorry
theorem dL_addEffect_3 : decode cL_addEffect 3 = .ok (.aload_n 0, 1) := sorry
theorem dL_addEffect_4 : decode cL_addEffect 4 = .ok (.iload_n 1, 1) := sorry
theorem dL_addEffect_5 : decode cL_addEffect 5 = .ok (.iload_n 2, 1) := sorry
theorem dL_addEffect_6 : decode cL_addEffect 6 = .ok (.iload_n 3, 1) := sorry
theorem dL_addEffect_7 : decode cL_addEffect 7 = .ok (.iload 4, 2) := sorry
theorem dL_addEffect_9 : decode cL_addEffect 9 = .ok (.iload 5, 2) := sorry
theorem dL_addEffect_11 : decode cL_addEffect 11 = .ok (.invokevirtual 77, 3) := sorry
theorem dL_addEffect_14 : decode cL_addEffect 14 = .ok (.i2l, 1) := sorry
theorem dL_addEffect_15 : decode cL_addEffect 15 = .ok (.lastore, 1) := sorry
theorem dL_addEffect_16 : decode cL_addEffect 16 = .ok (.goto 15, 3) := sorry
theorem dL_addEffect_19 : decode cL_addEffect 19 = .ok (.astore 7, 2) := sorry
theorem dL_addEffect_21 : decode cL_addEffect 21 = .ok (.iconst 1, 1) := sorry
theorem dL_addEffect_22 : decode cL_addEffect 22 = .ok (.ireturn, 1) := sorry
theorem dL_addEffect_23 : decode cL_addEffect 23 = .ok (.astore 7, 2) := sorry
theorem dL_addEffect_25 : decode cL_addEffect 25 = .ok (.iconst 2, 1) := sorry
theorem dL_addEffect_26 : decode cL_addEffect 26 = .ok (.ireturn, 1) := sorry
theorem dL_addEffect_27 : decode cL_addEffect 27 = .ok (.astore 7, 2) := sorry
theorem dL_addEffect_29 : decode cL_addEffect 29 = .ok (.iconst 3, 1) := sorry
theorem dL_addEffect_30 : decode cL_addEffect 30 = .ok (.ireturn, 1) := sorry
theorem dL_addEffect_31 : decode cL_addEffect 31 = .ok (.iconst 0, 1) := sorry
theorem dL_addEffect_32 : decode cL_addEffect 32 = .ok (.ireturn, 1) := sorry
theorem dL_startEffect_0 : decode cL_startEffect 0 = .ok (.aload_n 2, 1) := sorry
theorem dL_startEffect_1 : decode cL_startEffect 1 = .ok (.iconst 0, 1) := sorry
theorem dL_startEffect_2 : decode cL_startEffect 2 = .ok (.aload_n 0, 1) := sorry
theorem dL_startEffect_3 : decode cL_startEffect 3 = .ok (.iload_n 1, 1) := sorry
theorem dL_startEffect_4 : decode cL_startEffect 4 = .ok (.invokevirtual 81, 3) := sorry
theorem dL_startEffect_7 : decode cL_startEffect 7 = .ok (.i2l, 1) := sorry
theorem dL_startEffect_8 : decode cL_startEffect 8 = .ok (.lastore, 1) := sorry
theorem dL_startEffect_9 : decode cL_startEffect 9 = .ok (.goto 9, 3) := sorry
theorem dL_startEffect_12 : decode cL_startEffect 12 = .ok (.astore_n 3, 1) := sorry
theorem dL_startEffect_13 : decode cL_startEffect 13 = .ok (.iconst 1, 1) := sorry
theorem dL_startEffect_14 : decode cL_startEffect 14 = .ok (.ireturn, 1) := sorry
theorem dL_startEffect_15 : decode cL_startEffect 15 = .ok (.astore_n 3, 1) := sorry
theorem dL_startEffect_16 : decode cL_startEffect 16 = .ok (.iconst 2, 1) := sorry
theorem dL_startEffect_17 : decode cL_startEffect 17 = .ok (.ireturn, 1) := sorry
theorem dL_startEffect_18 : decode cL_startEffect 18 = .ok (.iconst 0, 1) := sorry
theorem dL_startEffect_19 : decode cL_startEffect 19 = .ok (.ireturn, 1) := sorry
theorem dL_stopEffect_0 : decode cL_stopEffect 0 = .ok (.aload_n 2, 1) := sorry
theorem dL_stopEffect_1 : decode cL_stopEffect 1 = .ok (.iconst 0, 1) := sorry
theorem dL_stopEffect_2 : decode cL_stopEffect 2 = .ok (.aload_n 0, 1) := sorry
theorem dL_stopEffect_3 : decode cL_stopEffect 3 = .ok (.iload_n 1, 1) := sorry
theorem dL_stopEffect_4 : decode cL_stopEffect 4 = .ok (.invokevirtual 84, 3) := sorry
theorem dL_stopEffect_7 : decode cL_stopEffect 7 = .ok (.i2l, 1) := sorry
theorem dL_stopEffect_8 : decode cL_stopEffect 8 = .ok (.lastore, 1) := sorry
theorem dL_stopEffect_9 : decode cL_stopEffect 9 = .ok (.goto 9, 3) := sorry
theorem dL_stopEffect_12 : decode cL_stopEffect 12 = .ok (.astore_n 3, 1) := sorry
theorem dL_stopEffect_13 : decode cL_stopEffect 13 = .ok (.iconst 1, 1) := sorry
theorem dL_stopEffect_14 : decode cL_stopEffect 14 = .ok (.ireturn, 1) := sorry
theorem dL_stopEffect_15 : decode cL_stopEffect 15 = .ok (.astore_n 3, 1) := sorry
theorem dL_stopEffect_16 : decode cL_stopEffect 16 = .ok (.iconst 2, 1) := sorry
theorem dL_stopEffect_17 : decode cL_stopEffect 17 = .ok (.ireturn, 1) := sorry
theorem dL_stopEffect_18 : decode cL_stopEffect 18 = .ok (.iconst 0, 1) := sorry
theorem dL_stopEffect_19 : decode cL_stopEffect 19 = .ok (.ireturn, 1) := sorry
theorem dL_effectOn_0 : decode cL_effectOn 0 = .ok (.aload_n 3, 1) := sorry
theorem dL_effectOn_1 : decode cL_effectOn 1 = .ok (.iconst 0, 1) := sorry
theorem dL_effectOn_2 : decode cL_effectOn 2 = .ok (.aload_n 0, 1) := sorry
theorem dL_effectOn_3 : decode cL_effectOn 3 = .ok (.iload_n 1, 1) := sorry
theorem dL_effectOn_4 : decode cL_effectOn 4 = .ok (.iload_n 2, 1) := sorry
theorem dL_effectOn_5 : decode cL_effectOn 5 = .ok (.invokevirtual 87, 3) := sorry
theorem dL_effectOn_8 : decode cL_effectOn 8 = .ok (.i2l, 1) := sorry
theorem dL_effectOn_9 : decode cL_effectOn 9 = .ok (.lastore, 1) := sorry
theorem dL_effectOn_10 : decode cL_effectOn 10 = .ok (.goto 7, 3) := sorry
theorem dL_effectOn_13 : decode cL_effectOn 13 = .ok (.astore 4, 2) := sorry
theorem dL_effectOn_15 : decode cL_effectOn 15 = .ok (.iconst 1, 1) := sorry
theorem dL_effectOn_16 : decode cL_effectOn 16 = .ok (.ireturn, 1) := sorry
theorem dL_effectOn_17 : decode cL_effectOn 17 = .ok (.iconst 0, 1) := sorry
theorem dL_effectOn_18 : decode cL_effectOn 18 = .ok (.ireturn, 1) := sorry
theorem dL_park_0 : decode cL_park 0 = .ok (.aload_n 3, 1) := sorry
theorem dL_park_1 : decode cL_park 1 = .ok (.iconst 0, 1) := sorry
theorem dL_park_2 : decode cL_park 2 = .ok (.aload_n 0, 1) := sorry
theorem dL_park_3 : decode cL_park 3 = .ok (.iload_n 1, 1) := sorry
theorem dL_park_4 : decode cL_park 4 = .ok (.iload_n 2, 1) := sorry
theorem dL_park_5 : decode cL_park 5 = .ok (.invokevirtual 90, 3) := sorry
theorem dL_park_8 : decode cL_park 8 = .ok (.i2l, 1) := sorry
theorem dL_park_9 : decode cL_park 9 = .ok (.lastore, 1) := sorry
theorem dL_park_10 : decode cL_park 10 = .ok (.goto 11, 3) := sorry
theorem dL_park_13 : decode cL_park 13 = .ok (.astore 4, 2) := sorry
theorem dL_park_15 : decode cL_park 15 = .ok (.iconst 1, 1) := sorry
theorem dL_park_16 : decode cL_park 16 = .ok (.ireturn, 1) := sorry
theorem dL_park_17 : decode cL_park 17 = .ok (.astore 4, 2) := sorry
theorem dL_park_19 : decode cL_park 19 = .ok (.iconst 2, 1) := sorry
theorem dL_park_20 : decode cL_park 20 = .ok (.ireturn, 1) := sorry
theorem dL_park_21 : decode cL_park 21 = .ok (.iconst 0, 1) := sorry
theorem dL_park_22 : decode cL_park 22 = .ok (.ireturn, 1) := sorry
theorem dL_unpark_0 : decode cL_unpark 0 = .ok (.aload_n 2, 1) := sorry
theorem dL_unpark_1 : decode cL_unpark 1 = .ok (.iconst 0, 1) := sorry
theorem dL_unpark_2 : decode cL_unpark 2 = .ok (.aload_n 0, 1) := sorry
theorem dL_unpark_3 : decode cL_unpark 3 = .ok (.iload_n 1, 1) := sorry
theorem dL_unpark_4 : decode cL_unpark 4 = .ok (.invokevirtual 93, 3) := sorry
theorem dL_unpark_7 : decode cL_unpark 7 = .ok (.i2l, 1) := sorry
theorem dL_unpark_8 : decode cL_unpark 8 = .ok (.lastore, 1) := sorry
theorem dL_unpark_9 : decode cL_unpark 9 = .ok (.goto 9, 3) := sorry
theorem dL_unpark_12 : decode cL_unpark 12 = .ok (.astore_n 3, 1) := sorry
theorem dL_unpark_13 : decode cL_unpark 13 = .ok (.iconst 1, 1) := sorry
theorem dL_unpark_14 : decode cL_unpark 14 = .ok (.ireturn, 1) := sorry
theorem dL_unpark_15 : decode cL_unpark 15 = .ok (.astore_n 3, 1) := sorry
theorem dL_unpark_16 : decode cL_unpark 16 = .ok (.iconst 2, 1) := sorry
theorem dL_unpark_17 : decode cL_unpark 17 = .ok (.ireturn, 1) := sorry
theorem dL_unpark_18 : decode cL_unpark 18 = .ok (.iconst 0, 1) := sorry
theorem dL_unpark_19 : decode cL_unpark 19 = .ok (.ireturn, 1) := sorry
theorem dL_setMaster_0 : decode cL_setMaster 0 = .ok (.aload_n 2, 1) := sorry
theorem dL_setMaster_1 : decode cL_setMaster 1 = .ok (.iconst 0, 1) := sorry
theorem dL_setMaster_2 : decode cL_setMaster 2 = .ok (.aload_n 0, 1) := sorry
theorem dL_setMaster_3 : decode cL_setMaster 3 = .ok (.iload_n 1, 1) := sorry
theorem dL_setMaster_4 : decode cL_setMaster 4 = .ok (.invokevirtual 96, 3) := sorry
theorem dL_setMaster_7 : decode cL_setMaster 7 = .ok (.i2l, 1) := sorry
theorem dL_setMaster_8 : decode cL_setMaster 8 = .ok (.lastore, 1) := sorry
theorem dL_setMaster_9 : decode cL_setMaster 9 = .ok (.goto 6, 3) := sorry
theorem dL_setMaster_12 : decode cL_setMaster 12 = .ok (.astore_n 3, 1) := sorry
theorem dL_setMaster_13 : decode cL_setMaster 13 = .ok (.iconst 1, 1) := sorry
theorem dL_setMaster_14 : decode cL_setMaster 14 = .ok (.ireturn, 1) := sorry
theorem dL_setMaster_15 : decode cL_setMaster 15 = .ok (.iconst 0, 1) := sorry
theorem dL_setMaster_16 : decode cL_setMaster 16 = .ok (.ireturn, 1) := sorry
theorem dL_level_0 : decode cL_level 0 = .ok (.aload_n 2, 1) := sorry
theorem dL_level_1 : decode cL_level 1 = .ok (.iconst 0, 1) := sorry
theorem dL_level_2 : decode cL_level 2 = .ok (.aload_n 0, 1) := sorry
theorem dL_level_3 : decode cL_level 3 = .ok (.iload_n 1, 1) := sorry
theorem dL_level_4 : decode cL_level 4 = .ok (.invokevirtual 99, 3) := sorry
theorem dL_level_7 : decode cL_level 7 = .ok (.i2l, 1) := sorry
theorem dL_level_8 : decode cL_level 8 = .ok (.lastore, 1) := sorry
theorem dL_level_9 : decode cL_level 9 = .ok (.goto 6, 3) := sorry
theorem dL_level_12 : decode cL_level 12 = .ok (.astore_n 3, 1) := sorry
theorem dL_level_13 : decode cL_level 13 = .ok (.iconst 1, 1) := sorry
theorem dL_level_14 : decode cL_level 14 = .ok (.ireturn, 1) := sorry
theorem dL_level_15 : decode cL_level 15 = .ok (.iconst 0, 1) := sorry
theorem dL_level_16 : decode cL_level 16 = .ok (.ireturn, 1) := sorry
theorem dL_levelAlone_0 : decode cL_levelAlone 0 = .ok (.aload_n 2, 1) := sorry
theorem dL_levelAlone_1 : decode cL_levelAlone 1 = .ok (.iconst 0, 1) := sorry
theorem dL_levelAlone_2 : decode cL_levelAlone 2 = .ok (.aload_n 0, 1) := sorry
theorem dL_levelAlone_3 : decode cL_levelAlone 3 = .ok (.iload_n 1, 1) := sorry
theorem dL_levelAlone_4 : decode cL_levelAlone 4 = .ok (.invokevirtual 102, 3) := sorry
theorem dL_levelAlone_7 : decode cL_levelAlone 7 = .ok (.i2l, 1) := sorry
theorem dL_levelAlone_8 : decode cL_levelAlone 8 = .ok (.lastore, 1) := sorry
theorem dL_levelAlone_9 : decode cL_levelAlone 9 = .ok (.goto 6, 3) := sorry
theorem dL_levelAlone_12 : decode cL_levelAlone 12 = .ok (.astore_n 3, 1) := sorry
theorem dL_levelAlone_13 : decode cL_levelAlone 13 = .ok (.iconst 1, 1) := sorry
theorem dL_levelAlone_14 : decode cL_levelAlone 14 = .ok (.ireturn, 1) := sorry
theorem dL_levelAlone_15 : decode cL_levelAlone 15 = .ok (.iconst 0, 1) := sorry
theorem dL_levelAlone_16 : decode cL_levelAlone 16 = .ok (.ireturn, 1) := sorry
theorem dL_channelByLevel_0 : decode cL_channelByLevel 0 = .ok (.aload_n 2, 1) := sorry
theorem dL_channelByLevel_1 : decode cL_channelByLevel 1 = .ok (.iconst 0, 1) := sorry
theorem dL_channelByLevel_2 : decode cL_channelByLevel 2 = .ok (.aload_n 0, 1) := sorry
theorem dL_channelByLevel_3 : decode cL_channelByLevel 3 = .ok (.iload_n 1, 1) := sorry
theorem dL_channelByLevel_4 : decode cL_channelByLevel 4 = .ok (.invokevirtual 105, 3) := sorry
theorem dL_channelByLevel_7 : decode cL_channelByLevel 7 = .ok (.i2l, 1) := sorry
theorem dL_channelByLevel_8 : decode cL_channelByLevel 8 = .ok (.lastore, 1) := sorry
theorem dL_channelByLevel_9 : decode cL_channelByLevel 9 = .ok (.goto 6, 3) := sorry
theorem dL_channelByLevel_12 : decode cL_channelByLevel 12 = .ok (.astore_n 3, 1) := sorry
theorem dL_channelByLevel_13 : decode cL_channelByLevel 13 = .ok (.iconst 1, 1) := sorry
theorem dL_channelByLevel_14 : decode cL_channelByLevel 14 = .ok (.ireturn, 1) := sorry
theorem dL_channelByLevel_15 : decode cL_channelByLevel 15 = .ok (.iconst 0, 1) := sorry
theorem dL_channelByLevel_16 : decode cL_channelByLevel 16 = .ok (.ireturn, 1) := sorry
theorem dL_meanLevel_0 : decode cL_meanLevel 0 = .ok (.aload_n 1, 1) := sorry
theorem dL_meanLevel_1 : decode cL_meanLevel 1 = .ok (.iconst 0, 1) := sorry
theorem dL_meanLevel_2 : decode cL_meanLevel 2 = .ok (.aload_n 0, 1) := sorry
theorem dL_meanLevel_3 : decode cL_meanLevel 3 = .ok (.invokevirtual 108, 3) := sorry
theorem dL_meanLevel_6 : decode cL_meanLevel 6 = .ok (.dastore, 1) := sorry
theorem dL_meanLevel_7 : decode cL_meanLevel 7 = .ok (.goto 6, 3) := sorry
theorem dL_meanLevel_10 : decode cL_meanLevel 10 = .ok (.astore_n 2, 1) := sorry
theorem dL_meanLevel_11 : decode cL_meanLevel 11 = .ok (.iconst 1, 1) := sorry
theorem dL_meanLevel_12 : decode cL_meanLevel 12 = .ok (.ireturn, 1) := sorry
theorem dL_meanLevel_13 : decode cL_meanLevel 13 = .ok (.iconst 0, 1) := sorry
theorem dL_meanLevel_14 : decode cL_meanLevel 14 = .ok (.ireturn, 1) := sorry
theorem dL_addStep_0 : decode cL_addStep 0 = .ok (.aload 4, 2) := sorry
theorem dL_addStep_2 : decode cL_addStep 2 = .ok (.iconst 0, 1) := sorry
theorem dL_addStep_3 : decode cL_addStep 3 = .ok (.aload_n 0, 1) := sorry
theorem dL_addStep_4 : decode cL_addStep 4 = .ok (.iload_n 1, 1) := sorry
theorem dL_addStep_5 : decode cL_addStep 5 = .ok (.iload_n 2, 1) := sorry
theorem dL_addStep_6 : decode cL_addStep 6 = .ok (.iload_n 3, 1) := sorry
theorem dL_addStep_7 : decode cL_addStep 7 = .ok (.invokevirtual 114, 3) := sorry
theorem dL_addStep_10 : decode cL_addStep 10 = .ok (.i2l, 1) := sorry
theorem dL_addStep_11 : decode cL_addStep 11 = .ok (.lastore, 1) := sorry
theorem dL_addStep_12 : decode cL_addStep 12 = .ok (.goto 11, 3) := sorry
theorem dL_addStep_15 : decode cL_addStep 15 = .ok (.astore 5, 2) := sorry
theorem dL_addStep_17 : decode cL_addStep 17 = .ok (.iconst 1, 1) := sorry
theorem dL_addStep_18 : decode cL_addStep 18 = .ok (.ireturn, 1) := sorry
theorem dL_addStep_19 : decode cL_addStep 19 = .ok (.astore 5, 2) := sorry
theorem dL_addStep_21 : decode cL_addStep 21 = .ok (.iconst 2, 1) := sorry
theorem dL_addStep_22 : decode cL_addStep 22 = .ok (.ireturn, 1) := sorry
theorem dL_addStep_23 : decode cL_addStep 23 = .ok (.iconst 0, 1) := sorry
theorem dL_addStep_24 : decode cL_addStep 24 = .ok (.ireturn, 1) := sorry
theorem dL_macroFault_0 : decode cL_macroFault 0 = .ok (.aload_n 1, 1) := sorry
theorem dL_macroFault_1 : decode cL_macroFault 1 = .ok (.iconst 0, 1) := sorry
theorem dL_macroFault_2 : decode cL_macroFault 2 = .ok (.aload_n 0, 1) := sorry
theorem dL_macroFault_3 : decode cL_macroFault 3 = .ok (.invokevirtual 118, 3) := sorry
theorem dL_macroFault_6 : decode cL_macroFault 6 = .ok (.i2l, 1) := sorry
theorem dL_macroFault_7 : decode cL_macroFault 7 = .ok (.lastore, 1) := sorry
theorem dL_macroFault_8 : decode cL_macroFault 8 = .ok (.goto 6, 3) := sorry
theorem dL_macroFault_11 : decode cL_macroFault 11 = .ok (.astore_n 2, 1) := sorry
theorem dL_macroFault_12 : decode cL_macroFault 12 = .ok (.iconst 1, 1) := sorry
theorem dL_macroFault_13 : decode cL_macroFault 13 = .ok (.ireturn, 1) := sorry
theorem dL_macroFault_14 : decode cL_macroFault 14 = .ok (.iconst 0, 1) := sorry
theorem dL_macroFault_15 : decode cL_macroFault 15 = .ok (.ireturn, 1) := sorry
theorem dL_law_0 : decode cL_law 0 = .ok (.new 8, 3) := sorry
theorem dL_law_3 : decode cL_law 3 = .ok (.dup, 1) := sorry
theorem dL_law_4 : decode cL_law 4 = .ok (.invokespecial 122, 3) := sorry
theorem dL_law_7 : decode cL_law 7 = .ok (.astore_n 1, 1) := sorry
theorem dL_law_8 : decode cL_law 8 = .ok (.new 123, 3) := sorry
theorem dL_law_11 : decode cL_law 11 = .ok (.dup, 1) := sorry
theorem dL_law_12 : decode cL_law 12 = .ok (.invokespecial 125, 3) := sorry
theorem dL_law_15 : decode cL_law 15 = .ok (.astore_n 2, 1) := sorry
theorem dL_law_16 : decode cL_law 16 = .ok (.iconst 1, 1) := sorry
theorem dL_law_17 : decode cL_law 17 = .ok (.newarray .long, 2) := sorry
theorem dL_law_19 : decode cL_law 19 = .ok (.astore_n 3, 1) := sorry
theorem dL_law_20 : decode cL_law 20 = .ok (.iconst 1, 1) := sorry
theorem dL_law_21 : decode cL_law 21 = .ok (.newarray .double, 2) := sorry
theorem dL_law_23 : decode cL_law 23 = .ok (.astore 4, 2) := sorry
theorem dL_law_25 : decode cL_law 25 = .ok (.iconst 0, 1) := sorry
theorem dL_law_26 : decode cL_law 26 = .ok (.istore 5, 2) := sorry
theorem dL_law_28 : decode cL_law 28 = .ok (.iload 5, 2) := sorry
theorem dL_law_30 : decode cL_law 30 = .ok (.aload_n 0, 1) := sorry
theorem dL_law_31 : decode cL_law 31 = .ok (.arraylength, 1) := sorry
theorem dL_law_32 : decode cL_law 32 = .ok (.bipush 6, 2) := sorry
theorem dL_law_34 : decode cL_law 34 = .ok (.isub, 1) := sorry
theorem dL_law_35 : decode cL_law 35 = .ok (.if_icmp .gt 2245, 3) := sorry
theorem dL_law_38 : decode cL_law 38 = .ok (.aload_n 0, 1) := sorry
theorem dL_law_39 : decode cL_law 39 = .ok (.iload 5, 2) := sorry
theorem dL_law_41 : decode cL_law 41 = .ok (.iaload, 1) := sorry
theorem dL_law_42 : decode cL_law 42 = .ok (.bipush 63, 2) := sorry
theorem dL_law_44 : decode cL_law 44 = .ok (.iand, 1) := sorry
theorem dL_law_45 : decode cL_law 45 = .ok (.tableswitch 2229 0 36 #[163, 245, 301, 381, 449, 540, 608, 621, 665, 709, 765, 821, 834, 890, 903, 947, 1050, 1118, 1209, 1265, 1321, 1427, 1483, 1539, 1607, 1675, 1731, 1787, 1843, 1899, 1955, 1969, 2012, 2077, 2159, 2172, 2185], 163) := sorry
theorem dL_law_208 : decode cL_law 208 = .ok (.aload_n 1, 1) := sorry
theorem dL_law_209 : decode cL_law 209 = .ok (.aload_n 0, 1) := sorry
theorem dL_law_210 : decode cL_law 210 = .ok (.iload 5, 2) := sorry
theorem dL_law_212 : decode cL_law 212 = .ok (.iconst 1, 1) := sorry
theorem dL_law_213 : decode cL_law 213 = .ok (.iadd, 1) := sorry
theorem dL_law_214 : decode cL_law 214 = .ok (.iaload, 1) := sorry
theorem dL_law_215 : decode cL_law 215 = .ok (.aload_n 0, 1) := sorry
theorem dL_law_216 : decode cL_law 216 = .ok (.iload 5, 2) := sorry
theorem dL_law_218 : decode cL_law 218 = .ok (.iconst 2, 1) := sorry
theorem dL_law_219 : decode cL_law 219 = .ok (.iadd, 1) := sorry
theorem dL_law_220 : decode cL_law 220 = .ok (.iaload, 1) := sorry
theorem dL_law_221 : decode cL_law 221 = .ok (.aload_n 0, 1) := sorry
theorem dL_law_222 : decode cL_law 222 = .ok (.iload 5, 2) := sorry
theorem dL_law_224 : decode cL_law 224 = .ok (.iconst 3, 1) := sorry
theorem dL_law_225 : decode cL_law 225 = .ok (.iadd, 1) := sorry
theorem dL_law_226 : decode cL_law 226 = .ok (.iaload, 1) := sorry
theorem dL_law_227 : decode cL_law 227 = .ok (.i2c, 1) := sorry
theorem dL_law_228 : decode cL_law 228 = .ok (.aload_n 3, 1) := sorry
theorem dL_law_229 : decode cL_law 229 = .ok (.invokestatic 126, 3) := sorry
theorem dL_law_232 : decode cL_law 232 = .ok (.istore 6, 2) := sorry
theorem dL_law_234 : decode cL_law 234 = .ok (.aload_n 2, 1) := sorry
theorem dL_law_235 : decode cL_law 235 = .ok (.aload_n 0, 1) := sorry
theorem dL_law_236 : decode cL_law 236 = .ok (.iload 5, 2) := sorry
theorem dL_law_238 : decode cL_law 238 = .ok (.iconst 1, 1) := sorry
theorem dL_law_239 : decode cL_law 239 = .ok (.iadd, 1) := sorry
theorem dL_law_240 : decode cL_law 240 = .ok (.iaload, 1) := sorry
theorem dL_law_241 : decode cL_law 241 = .ok (.aload_n 0, 1) := sorry
theorem dL_law_242 : decode cL_law 242 = .ok (.iload 5, 2) := sorry
theorem dL_law_244 : decode cL_law 244 = .ok (.iconst 2, 1) := sorry
theorem dL_law_245 : decode cL_law 245 = .ok (.iadd, 1) := sorry
theorem dL_law_246 : decode cL_law 246 = .ok (.iaload, 1) := sorry
theorem dL_law_247 : decode cL_law 247 = .ok (.aload_n 0, 1) := sorry
theorem dL_law_248 : decode cL_law 248 = .ok (.iload 5, 2) := sorry
theorem dL_law_250 : decode cL_law 250 = .ok (.iconst 3, 1) := sorry
theorem dL_law_251 : decode cL_law 251 = .ok (.iadd, 1) := sorry
theorem dL_law_252 : decode cL_law 252 = .ok (.iaload, 1) := sorry
theorem dL_law_253 : decode cL_law 253 = .ok (.i2c, 1) := sorry
theorem dL_law_254 : decode cL_law 254 = .ok (.invokevirtual 131, 3) := sorry
theorem dL_law_257 : decode cL_law 257 = .ok (.istore 7, 2) := sorry
theorem dL_law_259 : decode cL_law 259 = .ok (.aload_n 2, 1) := sorry
theorem dL_law_260 : decode cL_law 260 = .ok (.invokevirtual 132, 3) := sorry
theorem dL_law_263 : decode cL_law 263 = .ok (.iload 6, 2) := sorry
theorem dL_law_265 : decode cL_law 265 = .ok (.if_icmp .eq 5, 3) := sorry
theorem dL_law_270 : decode cL_law 270 = .ok (.iload 6, 2) := sorry
theorem dL_law_272 : decode cL_law 272 = .ok (.ifCond .ne 15, 3) := sorry
theorem dL_law_275 : decode cL_law 275 = .ok (.aload_n 3, 1) := sorry
theorem dL_law_276 : decode cL_law 276 = .ok (.iconst 0, 1) := sorry
theorem dL_law_277 : decode cL_law 277 = .ok (.laload, 1) := sorry
theorem dL_law_278 : decode cL_law 278 = .ok (.iload 7, 2) := sorry
theorem dL_law_280 : decode cL_law 280 = .ok (.i2l, 1) := sorry
theorem dL_law_281 : decode cL_law 281 = .ok (.lcmp, 1) := sorry
theorem dL_law_282 : decode cL_law 282 = .ok (.ifCond .eq 5, 3) := sorry
theorem dL_law_287 : decode cL_law 287 = .ok (.goto 1987, 3) := sorry
theorem dL_law_290 : decode cL_law 290 = .ok (.aload_n 1, 1) := sorry
theorem dL_law_291 : decode cL_law 291 = .ok (.aload_n 0, 1) := sorry
theorem dL_law_292 : decode cL_law 292 = .ok (.iload 5, 2) := sorry
theorem dL_law_294 : decode cL_law 294 = .ok (.iconst 1, 1) := sorry
theorem dL_law_295 : decode cL_law 295 = .ok (.iadd, 1) := sorry
theorem dL_law_296 : decode cL_law 296 = .ok (.iaload, 1) := sorry
theorem dL_law_297 : decode cL_law 297 = .ok (.aload_n 3, 1) := sorry
theorem dL_law_298 : decode cL_law 298 = .ok (.invokestatic 135, 3) := sorry
theorem dL_law_301 : decode cL_law 301 = .ok (.istore 6, 2) := sorry
theorem dL_law_303 : decode cL_law 303 = .ok (.aload_n 2, 1) := sorry
theorem dL_law_304 : decode cL_law 304 = .ok (.aload_n 0, 1) := sorry
theorem dL_law_305 : decode cL_law 305 = .ok (.iload 5, 2) := sorry
theorem dL_law_307 : decode cL_law 307 = .ok (.iconst 1, 1) := sorry
theorem dL_law_308 : decode cL_law 308 = .ok (.iadd, 1) := sorry
theorem dL_law_309 : decode cL_law 309 = .ok (.iaload, 1) := sorry
theorem dL_law_310 : decode cL_law 310 = .ok (.invokevirtual 138, 3) := sorry
theorem dL_law_313 : decode cL_law 313 = .ok (.istore 7, 2) := sorry
theorem dL_law_315 : decode cL_law 315 = .ok (.aload_n 2, 1) := sorry
theorem dL_law_316 : decode cL_law 316 = .ok (.invokevirtual 132, 3) := sorry
theorem dL_law_319 : decode cL_law 319 = .ok (.iload 6, 2) := sorry
theorem dL_law_321 : decode cL_law 321 = .ok (.if_icmp .eq 5, 3) := sorry
theorem dL_law_326 : decode cL_law 326 = .ok (.iload 6, 2) := sorry
theorem dL_law_328 : decode cL_law 328 = .ok (.ifCond .ne 15, 3) := sorry
theorem dL_law_331 : decode cL_law 331 = .ok (.aload_n 3, 1) := sorry
theorem dL_law_332 : decode cL_law 332 = .ok (.iconst 0, 1) := sorry
theorem dL_law_333 : decode cL_law 333 = .ok (.laload, 1) := sorry
theorem dL_law_334 : decode cL_law 334 = .ok (.iload 7, 2) := sorry
theorem dL_law_336 : decode cL_law 336 = .ok (.i2l, 1) := sorry
theorem dL_law_337 : decode cL_law 337 = .ok (.lcmp, 1) := sorry
theorem dL_law_338 : decode cL_law 338 = .ok (.ifCond .eq 5, 3) := sorry
theorem dL_law_343 : decode cL_law 343 = .ok (.goto 1931, 3) := sorry
theorem dL_law_346 : decode cL_law 346 = .ok (.aload_n 1, 1) := sorry
theorem dL_law_347 : decode cL_law 347 = .ok (.aload_n 0, 1) := sorry
theorem dL_law_348 : decode cL_law 348 = .ok (.iload 5, 2) := sorry
theorem dL_law_350 : decode cL_law 350 = .ok (.iconst 1, 1) := sorry
theorem dL_law_351 : decode cL_law 351 = .ok (.iadd, 1) := sorry
theorem dL_law_352 : decode cL_law 352 = .ok (.iaload, 1) := sorry
theorem dL_law_353 : decode cL_law 353 = .ok (.aload_n 0, 1) := sorry
theorem dL_law_354 : decode cL_law 354 = .ok (.iload 5, 2) := sorry
theorem dL_law_356 : decode cL_law 356 = .ok (.iconst 2, 1) := sorry
theorem dL_law_357 : decode cL_law 357 = .ok (.iadd, 1) := sorry
theorem dL_law_358 : decode cL_law 358 = .ok (.iaload, 1) := sorry
theorem dL_law_359 : decode cL_law 359 = .ok (.aload_n 0, 1) := sorry
theorem dL_law_360 : decode cL_law 360 = .ok (.iload 5, 2) := sorry
theorem dL_law_362 : decode cL_law 362 = .ok (.iconst 3, 1) := sorry
theorem dL_law_363 : decode cL_law 363 = .ok (.iadd, 1) := sorry
theorem dL_law_364 : decode cL_law 364 = .ok (.iaload, 1) := sorry
theorem dL_law_365 : decode cL_law 365 = .ok (.aload_n 3, 1) := sorry
theorem dL_law_366 : decode cL_law 366 = .ok (.invokestatic 139, 3) := sorry
theorem dL_law_369 : decode cL_law 369 = .ok (.istore 6, 2) := sorry
theorem dL_law_371 : decode cL_law 371 = .ok (.aload_n 2, 1) := sorry
theorem dL_law_372 : decode cL_law 372 = .ok (.aload_n 0, 1) := sorry
theorem dL_law_373 : decode cL_law 373 = .ok (.iload 5, 2) := sorry
theorem dL_law_375 : decode cL_law 375 = .ok (.iconst 1, 1) := sorry
theorem dL_law_376 : decode cL_law 376 = .ok (.iadd, 1) := sorry
theorem dL_law_377 : decode cL_law 377 = .ok (.iaload, 1) := sorry
theorem dL_law_378 : decode cL_law 378 = .ok (.aload_n 0, 1) := sorry
theorem dL_law_379 : decode cL_law 379 = .ok (.iload 5, 2) := sorry
theorem dL_law_381 : decode cL_law 381 = .ok (.iconst 2, 1) := sorry
theorem dL_law_382 : decode cL_law 382 = .ok (.iadd, 1) := sorry
theorem dL_law_383 : decode cL_law 383 = .ok (.iaload, 1) := sorry
theorem dL_law_384 : decode cL_law 384 = .ok (.aload_n 0, 1) := sorry
theorem dL_law_385 : decode cL_law 385 = .ok (.iload 5, 2) := sorry
theorem dL_law_387 : decode cL_law 387 = .ok (.iconst 3, 1) := sorry
theorem dL_law_388 : decode cL_law 388 = .ok (.iadd, 1) := sorry
theorem dL_law_389 : decode cL_law 389 = .ok (.iaload, 1) := sorry
theorem dL_law_390 : decode cL_law 390 = .ok (.invokevirtual 142, 3) := sorry
theorem dL_law_393 : decode cL_law 393 = .ok (.istore 7, 2) := sorry
theorem dL_law_395 : decode cL_law 395 = .ok (.aload_n 2, 1) := sorry
theorem dL_law_396 : decode cL_law 396 = .ok (.invokevirtual 132, 3) := sorry
theorem dL_law_399 : decode cL_law 399 = .ok (.iload 6, 2) := sorry
theorem dL_law_401 : decode cL_law 401 = .ok (.if_icmp .eq 5, 3) := sorry
theorem dL_law_406 : decode cL_law 406 = .ok (.iload 6, 2) := sorry
theorem dL_law_408 : decode cL_law 408 = .ok (.ifCond .ne 15, 3) := sorry
theorem dL_law_411 : decode cL_law 411 = .ok (.aload_n 3, 1) := sorry
theorem dL_law_412 : decode cL_law 412 = .ok (.iconst 0, 1) := sorry
theorem dL_law_413 : decode cL_law 413 = .ok (.laload, 1) := sorry
theorem dL_law_414 : decode cL_law 414 = .ok (.iload 7, 2) := sorry
theorem dL_law_416 : decode cL_law 416 = .ok (.i2l, 1) := sorry
theorem dL_law_417 : decode cL_law 417 = .ok (.lcmp, 1) := sorry
theorem dL_law_418 : decode cL_law 418 = .ok (.ifCond .eq 5, 3) := sorry
theorem dL_law_423 : decode cL_law 423 = .ok (.goto 1851, 3) := sorry
theorem dL_law_426 : decode cL_law 426 = .ok (.aload_n 1, 1) := sorry
theorem dL_law_427 : decode cL_law 427 = .ok (.aload_n 0, 1) := sorry
theorem dL_law_428 : decode cL_law 428 = .ok (.iload 5, 2) := sorry
theorem dL_law_430 : decode cL_law 430 = .ok (.iconst 1, 1) := sorry
theorem dL_law_431 : decode cL_law 431 = .ok (.iadd, 1) := sorry
theorem dL_law_432 : decode cL_law 432 = .ok (.iaload, 1) := sorry
theorem dL_law_433 : decode cL_law 433 = .ok (.aload_n 0, 1) := sorry
theorem dL_law_434 : decode cL_law 434 = .ok (.iload 5, 2) := sorry
theorem dL_law_436 : decode cL_law 436 = .ok (.iconst 2, 1) := sorry
theorem dL_law_437 : decode cL_law 437 = .ok (.iadd, 1) := sorry
theorem dL_law_438 : decode cL_law 438 = .ok (.iaload, 1) := sorry
theorem dL_law_439 : decode cL_law 439 = .ok (.aload_n 3, 1) := sorry
theorem dL_law_440 : decode cL_law 440 = .ok (.invokestatic 143, 3) := sorry
theorem dL_law_443 : decode cL_law 443 = .ok (.istore 6, 2) := sorry
theorem dL_law_445 : decode cL_law 445 = .ok (.aload_n 2, 1) := sorry
theorem dL_law_446 : decode cL_law 446 = .ok (.aload_n 0, 1) := sorry
theorem dL_law_447 : decode cL_law 447 = .ok (.iload 5, 2) := sorry
theorem dL_law_449 : decode cL_law 449 = .ok (.iconst 1, 1) := sorry
theorem dL_law_450 : decode cL_law 450 = .ok (.iadd, 1) := sorry
theorem dL_law_451 : decode cL_law 451 = .ok (.iaload, 1) := sorry
theorem dL_law_452 : decode cL_law 452 = .ok (.aload_n 0, 1) := sorry
theorem dL_law_453 : decode cL_law 453 = .ok (.iload 5, 2) := sorry
theorem dL_law_455 : decode cL_law 455 = .ok (.iconst 2, 1) := sorry
theorem dL_law_456 : decode cL_law 456 = .ok (.iadd, 1) := sorry
theorem dL_law_457 : decode cL_law 457 = .ok (.iaload, 1) := sorry
theorem dL_law_458 : decode cL_law 458 = .ok (.invokevirtual 146, 3) := sorry
theorem dL_law_461 : decode cL_law 461 = .ok (.istore 7, 2) := sorry
theorem dL_law_463 : decode cL_law 463 = .ok (.aload_n 2, 1) := sorry
theorem dL_law_464 : decode cL_law 464 = .ok (.invokevirtual 132, 3) := sorry
theorem dL_law_467 : decode cL_law 467 = .ok (.iload 6, 2) := sorry
theorem dL_law_469 : decode cL_law 469 = .ok (.if_icmp .eq 5, 3) := sorry
theorem dL_law_474 : decode cL_law 474 = .ok (.iload 6, 2) := sorry
theorem dL_law_476 : decode cL_law 476 = .ok (.ifCond .ne 15, 3) := sorry
theorem dL_law_479 : decode cL_law 479 = .ok (.aload_n 3, 1) := sorry
theorem dL_law_480 : decode cL_law 480 = .ok (.iconst 0, 1) := sorry
theorem dL_law_481 : decode cL_law 481 = .ok (.laload, 1) := sorry
theorem dL_law_482 : decode cL_law 482 = .ok (.iload 7, 2) := sorry
theorem dL_law_484 : decode cL_law 484 = .ok (.i2l, 1) := sorry
theorem dL_law_485 : decode cL_law 485 = .ok (.lcmp, 1) := sorry
theorem dL_law_486 : decode cL_law 486 = .ok (.ifCond .eq 5, 3) := sorry
theorem dL_law_491 : decode cL_law 491 = .ok (.goto 1783, 3) := sorry
theorem dL_law_494 : decode cL_law 494 = .ok (.aload_n 1, 1) := sorry
theorem dL_law_495 : decode cL_law 495 = .ok (.aload_n 0, 1) := sorry
theorem dL_law_496 : decode cL_law 496 = .ok (.iload 5, 2) := sorry
theorem dL_law_498 : decode cL_law 498 = .ok (.iconst 1, 1) := sorry
theorem dL_law_499 : decode cL_law 499 = .ok (.iadd, 1) := sorry
theorem dL_law_500 : decode cL_law 500 = .ok (.iaload, 1) := sorry
theorem dL_law_501 : decode cL_law 501 = .ok (.aload_n 0, 1) := sorry
theorem dL_law_502 : decode cL_law 502 = .ok (.iload 5, 2) := sorry
theorem dL_law_504 : decode cL_law 504 = .ok (.iconst 2, 1) := sorry
theorem dL_law_505 : decode cL_law 505 = .ok (.iadd, 1) := sorry
theorem dL_law_506 : decode cL_law 506 = .ok (.iaload, 1) := sorry
theorem dL_law_507 : decode cL_law 507 = .ok (.ifCond .eq 7, 3) := sorry
theorem dL_law_510 : decode cL_law 510 = .ok (.iconst 1, 1) := sorry
theorem dL_law_511 : decode cL_law 511 = .ok (.goto 4, 3) := sorry
theorem dL_law_514 : decode cL_law 514 = .ok (.iconst 0, 1) := sorry
theorem dL_law_515 : decode cL_law 515 = .ok (.aload_n 3, 1) := sorry
theorem dL_law_516 : decode cL_law 516 = .ok (.invokestatic 147, 3) := sorry
theorem dL_law_519 : decode cL_law 519 = .ok (.istore 6, 2) := sorry
theorem dL_law_521 : decode cL_law 521 = .ok (.aload_n 2, 1) := sorry
theorem dL_law_522 : decode cL_law 522 = .ok (.aload_n 0, 1) := sorry
theorem dL_law_523 : decode cL_law 523 = .ok (.iload 5, 2) := sorry
theorem dL_law_525 : decode cL_law 525 = .ok (.iconst 1, 1) := sorry
theorem dL_law_526 : decode cL_law 526 = .ok (.iadd, 1) := sorry
theorem dL_law_527 : decode cL_law 527 = .ok (.iaload, 1) := sorry
theorem dL_law_528 : decode cL_law 528 = .ok (.aload_n 0, 1) := sorry
theorem dL_law_529 : decode cL_law 529 = .ok (.iload 5, 2) := sorry
theorem dL_law_531 : decode cL_law 531 = .ok (.iconst 2, 1) := sorry
theorem dL_law_532 : decode cL_law 532 = .ok (.iadd, 1) := sorry
theorem dL_law_533 : decode cL_law 533 = .ok (.iaload, 1) := sorry
theorem dL_law_534 : decode cL_law 534 = .ok (.ifCond .eq 7, 3) := sorry
theorem dL_law_537 : decode cL_law 537 = .ok (.iconst 1, 1) := sorry
theorem dL_law_538 : decode cL_law 538 = .ok (.goto 4, 3) := sorry
theorem dL_law_541 : decode cL_law 541 = .ok (.iconst 0, 1) := sorry
theorem dL_law_542 : decode cL_law 542 = .ok (.invokevirtual 150, 3) := sorry
theorem dL_law_545 : decode cL_law 545 = .ok (.istore 7, 2) := sorry
theorem dL_law_547 : decode cL_law 547 = .ok (.aload_n 2, 1) := sorry
theorem dL_law_548 : decode cL_law 548 = .ok (.invokevirtual 132, 3) := sorry
theorem dL_law_551 : decode cL_law 551 = .ok (.iload 6, 2) := sorry
theorem dL_law_553 : decode cL_law 553 = .ok (.if_icmp .eq 5, 3) := sorry
theorem dL_law_558 : decode cL_law 558 = .ok (.iload 6, 2) := sorry
theorem dL_law_560 : decode cL_law 560 = .ok (.ifCond .ne 22, 3) := sorry
theorem dL_law_563 : decode cL_law 563 = .ok (.aload_n 3, 1) := sorry
theorem dL_law_564 : decode cL_law 564 = .ok (.iconst 0, 1) := sorry
theorem dL_law_565 : decode cL_law 565 = .ok (.laload, 1) := sorry
theorem dL_law_566 : decode cL_law 566 = .ok (.iload 7, 2) := sorry
theorem dL_law_568 : decode cL_law 568 = .ok (.ifCond .eq 7, 3) := sorry
theorem dL_law_571 : decode cL_law 571 = .ok (.lconst 1, 1) := sorry
theorem dL_law_572 : decode cL_law 572 = .ok (.goto 4, 3) := sorry
theorem dL_law_575 : decode cL_law 575 = .ok (.lconst 0, 1) := sorry
theorem dL_law_576 : decode cL_law 576 = .ok (.lcmp, 1) := sorry
theorem dL_law_577 : decode cL_law 577 = .ok (.ifCond .eq 5, 3) := sorry
theorem dL_law_582 : decode cL_law 582 = .ok (.goto 1692, 3) := sorry
theorem dL_law_585 : decode cL_law 585 = .ok (.aload_n 1, 1) := sorry
theorem dL_law_586 : decode cL_law 586 = .ok (.aload_n 0, 1) := sorry
theorem dL_law_587 : decode cL_law 587 = .ok (.iload 5, 2) := sorry
theorem dL_law_589 : decode cL_law 589 = .ok (.iconst 1, 1) := sorry
theorem dL_law_590 : decode cL_law 590 = .ok (.iadd, 1) := sorry
theorem dL_law_591 : decode cL_law 591 = .ok (.iaload, 1) := sorry
theorem dL_law_592 : decode cL_law 592 = .ok (.aload_n 0, 1) := sorry
theorem dL_law_593 : decode cL_law 593 = .ok (.iload 5, 2) := sorry
theorem dL_law_595 : decode cL_law 595 = .ok (.iconst 2, 1) := sorry
theorem dL_law_596 : decode cL_law 596 = .ok (.iadd, 1) := sorry
theorem dL_law_597 : decode cL_law 597 = .ok (.iaload, 1) := sorry
theorem dL_law_598 : decode cL_law 598 = .ok (.aload_n 3, 1) := sorry
theorem dL_law_599 : decode cL_law 599 = .ok (.invokestatic 151, 3) := sorry
theorem dL_law_602 : decode cL_law 602 = .ok (.istore 6, 2) := sorry
theorem dL_law_604 : decode cL_law 604 = .ok (.aload_n 2, 1) := sorry
theorem dL_law_605 : decode cL_law 605 = .ok (.aload_n 0, 1) := sorry
theorem dL_law_606 : decode cL_law 606 = .ok (.iload 5, 2) := sorry
theorem dL_law_608 : decode cL_law 608 = .ok (.iconst 1, 1) := sorry
theorem dL_law_609 : decode cL_law 609 = .ok (.iadd, 1) := sorry
theorem dL_law_610 : decode cL_law 610 = .ok (.iaload, 1) := sorry
theorem dL_law_611 : decode cL_law 611 = .ok (.aload_n 0, 1) := sorry
theorem dL_law_612 : decode cL_law 612 = .ok (.iload 5, 2) := sorry
theorem dL_law_614 : decode cL_law 614 = .ok (.iconst 2, 1) := sorry
theorem dL_law_615 : decode cL_law 615 = .ok (.iadd, 1) := sorry
theorem dL_law_616 : decode cL_law 616 = .ok (.iaload, 1) := sorry
theorem dL_law_617 : decode cL_law 617 = .ok (.invokevirtual 153, 3) := sorry
theorem dL_law_620 : decode cL_law 620 = .ok (.istore 7, 2) := sorry
theorem dL_law_622 : decode cL_law 622 = .ok (.aload_n 2, 1) := sorry
theorem dL_law_623 : decode cL_law 623 = .ok (.invokevirtual 132, 3) := sorry
theorem dL_law_626 : decode cL_law 626 = .ok (.iload 6, 2) := sorry
theorem dL_law_628 : decode cL_law 628 = .ok (.if_icmp .eq 5, 3) := sorry
theorem dL_law_633 : decode cL_law 633 = .ok (.iload 6, 2) := sorry
theorem dL_law_635 : decode cL_law 635 = .ok (.ifCond .ne 15, 3) := sorry
theorem dL_law_638 : decode cL_law 638 = .ok (.aload_n 3, 1) := sorry
theorem dL_law_639 : decode cL_law 639 = .ok (.iconst 0, 1) := sorry
theorem dL_law_640 : decode cL_law 640 = .ok (.laload, 1) := sorry
theorem dL_law_641 : decode cL_law 641 = .ok (.iload 7, 2) := sorry
theorem dL_law_643 : decode cL_law 643 = .ok (.i2l, 1) := sorry
theorem dL_law_644 : decode cL_law 644 = .ok (.lcmp, 1) := sorry
theorem dL_law_645 : decode cL_law 645 = .ok (.ifCond .eq 5, 3) := sorry
theorem dL_law_650 : decode cL_law 650 = .ok (.goto 1624, 3) := sorry
theorem dL_law_653 : decode cL_law 653 = .ok (.aload_n 1, 1) := sorry
theorem dL_law_654 : decode cL_law 654 = .ok (.invokevirtual 154, 3) := sorry
theorem dL_law_657 : decode cL_law 657 = .ok (.aload_n 2, 1) := sorry
theorem dL_law_658 : decode cL_law 658 = .ok (.invokevirtual 157, 3) := sorry
theorem dL_law_661 : decode cL_law 661 = .ok (.if_icmp .eq 1613, 3) := sorry
theorem dL_law_666 : decode cL_law 666 = .ok (.aload_n 1, 1) := sorry
theorem dL_law_667 : decode cL_law 667 = .ok (.aload_n 3, 1) := sorry
theorem dL_law_668 : decode cL_law 668 = .ok (.invokestatic 158, 3) := sorry
theorem dL_law_671 : decode cL_law 671 = .ok (.istore 6, 2) := sorry
theorem dL_law_673 : decode cL_law 673 = .ok (.aload_n 2, 1) := sorry
theorem dL_law_674 : decode cL_law 674 = .ok (.invokevirtual 161, 3) := sorry
theorem dL_law_677 : decode cL_law 677 = .ok (.istore 7, 2) := sorry
theorem dL_law_679 : decode cL_law 679 = .ok (.aload_n 2, 1) := sorry
theorem dL_law_680 : decode cL_law 680 = .ok (.invokevirtual 132, 3) := sorry
theorem dL_law_683 : decode cL_law 683 = .ok (.iload 6, 2) := sorry
theorem dL_law_685 : decode cL_law 685 = .ok (.if_icmp .eq 5, 3) := sorry
theorem dL_law_690 : decode cL_law 690 = .ok (.iload 6, 2) := sorry
theorem dL_law_692 : decode cL_law 692 = .ok (.ifCond .ne 15, 3) := sorry
theorem dL_law_695 : decode cL_law 695 = .ok (.aload_n 3, 1) := sorry
theorem dL_law_696 : decode cL_law 696 = .ok (.iconst 0, 1) := sorry
theorem dL_law_697 : decode cL_law 697 = .ok (.laload, 1) := sorry
theorem dL_law_698 : decode cL_law 698 = .ok (.iload 7, 2) := sorry
theorem dL_law_700 : decode cL_law 700 = .ok (.i2l, 1) := sorry
theorem dL_law_701 : decode cL_law 701 = .ok (.lcmp, 1) := sorry
theorem dL_law_702 : decode cL_law 702 = .ok (.ifCond .eq 5, 3) := sorry
theorem dL_law_707 : decode cL_law 707 = .ok (.goto 1567, 3) := sorry
theorem dL_law_710 : decode cL_law 710 = .ok (.aload_n 1, 1) := sorry
theorem dL_law_711 : decode cL_law 711 = .ok (.aload_n 3, 1) := sorry
theorem dL_law_712 : decode cL_law 712 = .ok (.invokestatic 162, 3) := sorry
theorem dL_law_715 : decode cL_law 715 = .ok (.istore 6, 2) := sorry
theorem dL_law_717 : decode cL_law 717 = .ok (.aload_n 2, 1) := sorry
theorem dL_law_718 : decode cL_law 718 = .ok (.invokevirtual 164, 3) := sorry
theorem dL_law_721 : decode cL_law 721 = .ok (.istore 7, 2) := sorry
theorem dL_law_723 : decode cL_law 723 = .ok (.aload_n 2, 1) := sorry
theorem dL_law_724 : decode cL_law 724 = .ok (.invokevirtual 132, 3) := sorry
theorem dL_law_727 : decode cL_law 727 = .ok (.iload 6, 2) := sorry
theorem dL_law_729 : decode cL_law 729 = .ok (.if_icmp .eq 5, 3) := sorry
theorem dL_law_734 : decode cL_law 734 = .ok (.iload 6, 2) := sorry
theorem dL_law_736 : decode cL_law 736 = .ok (.ifCond .ne 15, 3) := sorry
theorem dL_law_739 : decode cL_law 739 = .ok (.aload_n 3, 1) := sorry
theorem dL_law_740 : decode cL_law 740 = .ok (.iconst 0, 1) := sorry
theorem dL_law_741 : decode cL_law 741 = .ok (.laload, 1) := sorry
theorem dL_law_742 : decode cL_law 742 = .ok (.iload 7, 2) := sorry
theorem dL_law_744 : decode cL_law 744 = .ok (.i2l, 1) := sorry
theorem dL_law_745 : decode cL_law 745 = .ok (.lcmp, 1) := sorry
theorem dL_law_746 : decode cL_law 746 = .ok (.ifCond .eq 5, 3) := sorry
theorem dL_law_751 : decode cL_law 751 = .ok (.goto 1523, 3) := sorry
theorem dL_law_754 : decode cL_law 754 = .ok (.aload_n 1, 1) := sorry
theorem dL_law_755 : decode cL_law 755 = .ok (.aload_n 0, 1) := sorry
theorem dL_law_756 : decode cL_law 756 = .ok (.iload 5, 2) := sorry
theorem dL_law_758 : decode cL_law 758 = .ok (.iconst 1, 1) := sorry
theorem dL_law_759 : decode cL_law 759 = .ok (.iadd, 1) := sorry
theorem dL_law_760 : decode cL_law 760 = .ok (.iaload, 1) := sorry
theorem dL_law_761 : decode cL_law 761 = .ok (.aload_n 3, 1) := sorry
theorem dL_law_762 : decode cL_law 762 = .ok (.invokestatic 165, 3) := sorry
theorem dL_law_765 : decode cL_law 765 = .ok (.istore 6, 2) := sorry
theorem dL_law_767 : decode cL_law 767 = .ok (.aload_n 2, 1) := sorry
theorem dL_law_768 : decode cL_law 768 = .ok (.aload_n 0, 1) := sorry
theorem dL_law_769 : decode cL_law 769 = .ok (.iload 5, 2) := sorry
theorem dL_law_771 : decode cL_law 771 = .ok (.iconst 1, 1) := sorry
theorem dL_law_772 : decode cL_law 772 = .ok (.iadd, 1) := sorry
theorem dL_law_773 : decode cL_law 773 = .ok (.iaload, 1) := sorry
theorem dL_law_774 : decode cL_law 774 = .ok (.invokevirtual 167, 3) := sorry
theorem dL_law_777 : decode cL_law 777 = .ok (.istore 7, 2) := sorry
theorem dL_law_779 : decode cL_law 779 = .ok (.aload_n 2, 1) := sorry
theorem dL_law_780 : decode cL_law 780 = .ok (.invokevirtual 132, 3) := sorry
theorem dL_law_783 : decode cL_law 783 = .ok (.iload 6, 2) := sorry
theorem dL_law_785 : decode cL_law 785 = .ok (.if_icmp .eq 5, 3) := sorry
theorem dL_law_790 : decode cL_law 790 = .ok (.iload 6, 2) := sorry
theorem dL_law_792 : decode cL_law 792 = .ok (.ifCond .ne 15, 3) := sorry
theorem dL_law_795 : decode cL_law 795 = .ok (.aload_n 3, 1) := sorry
theorem dL_law_796 : decode cL_law 796 = .ok (.iconst 0, 1) := sorry
theorem dL_law_797 : decode cL_law 797 = .ok (.laload, 1) := sorry
theorem dL_law_798 : decode cL_law 798 = .ok (.iload 7, 2) := sorry
theorem dL_law_800 : decode cL_law 800 = .ok (.i2l, 1) := sorry
theorem dL_law_801 : decode cL_law 801 = .ok (.lcmp, 1) := sorry
theorem dL_law_802 : decode cL_law 802 = .ok (.ifCond .eq 5, 3) := sorry
theorem dL_law_807 : decode cL_law 807 = .ok (.goto 1467, 3) := sorry
theorem dL_law_810 : decode cL_law 810 = .ok (.aload_n 1, 1) := sorry
theorem dL_law_811 : decode cL_law 811 = .ok (.aload_n 0, 1) := sorry
theorem dL_law_812 : decode cL_law 812 = .ok (.iload 5, 2) := sorry
theorem dL_law_814 : decode cL_law 814 = .ok (.iconst 1, 1) := sorry
theorem dL_law_815 : decode cL_law 815 = .ok (.iadd, 1) := sorry
theorem dL_law_816 : decode cL_law 816 = .ok (.iaload, 1) := sorry
theorem dL_law_817 : decode cL_law 817 = .ok (.aload_n 3, 1) := sorry
theorem dL_law_818 : decode cL_law 818 = .ok (.invokestatic 168, 3) := sorry
theorem dL_law_821 : decode cL_law 821 = .ok (.istore 6, 2) := sorry
theorem dL_law_823 : decode cL_law 823 = .ok (.aload_n 2, 1) := sorry
theorem dL_law_824 : decode cL_law 824 = .ok (.aload_n 0, 1) := sorry
theorem dL_law_825 : decode cL_law 825 = .ok (.iload 5, 2) := sorry
theorem dL_law_827 : decode cL_law 827 = .ok (.iconst 1, 1) := sorry
theorem dL_law_828 : decode cL_law 828 = .ok (.iadd, 1) := sorry
theorem dL_law_829 : decode cL_law 829 = .ok (.iaload, 1) := sorry
theorem dL_law_830 : decode cL_law 830 = .ok (.invokevirtual 170, 3) := sorry
theorem dL_law_833 : decode cL_law 833 = .ok (.istore 7, 2) := sorry
theorem dL_law_835 : decode cL_law 835 = .ok (.aload_n 2, 1) := sorry
theorem dL_law_836 : decode cL_law 836 = .ok (.invokevirtual 132, 3) := sorry
theorem dL_law_839 : decode cL_law 839 = .ok (.iload 6, 2) := sorry
theorem dL_law_841 : decode cL_law 841 = .ok (.if_icmp .eq 5, 3) := sorry
theorem dL_law_846 : decode cL_law 846 = .ok (.iload 6, 2) := sorry
theorem dL_law_848 : decode cL_law 848 = .ok (.ifCond .ne 15, 3) := sorry
theorem dL_law_851 : decode cL_law 851 = .ok (.aload_n 3, 1) := sorry
theorem dL_law_852 : decode cL_law 852 = .ok (.iconst 0, 1) := sorry
theorem dL_law_853 : decode cL_law 853 = .ok (.laload, 1) := sorry
theorem dL_law_854 : decode cL_law 854 = .ok (.iload 7, 2) := sorry
theorem dL_law_856 : decode cL_law 856 = .ok (.i2l, 1) := sorry
theorem dL_law_857 : decode cL_law 857 = .ok (.lcmp, 1) := sorry
theorem dL_law_858 : decode cL_law 858 = .ok (.ifCond .eq 5, 3) := sorry
theorem dL_law_863 : decode cL_law 863 = .ok (.goto 1411, 3) := sorry
theorem dL_law_866 : decode cL_law 866 = .ok (.aload_n 1, 1) := sorry
theorem dL_law_867 : decode cL_law 867 = .ok (.invokevirtual 171, 3) := sorry
theorem dL_law_870 : decode cL_law 870 = .ok (.aload_n 2, 1) := sorry
theorem dL_law_871 : decode cL_law 871 = .ok (.invokevirtual 174, 3) := sorry
theorem dL_law_874 : decode cL_law 874 = .ok (.if_icmp .eq 1400, 3) := sorry
theorem dL_law_879 : decode cL_law 879 = .ok (.aload_n 1, 1) := sorry
theorem dL_law_880 : decode cL_law 880 = .ok (.aload_n 0, 1) := sorry
theorem dL_law_881 : decode cL_law 881 = .ok (.iload 5, 2) := sorry
theorem dL_law_883 : decode cL_law 883 = .ok (.iconst 1, 1) := sorry
theorem dL_law_884 : decode cL_law 884 = .ok (.iadd, 1) := sorry
theorem dL_law_885 : decode cL_law 885 = .ok (.iaload, 1) := sorry
theorem dL_law_886 : decode cL_law 886 = .ok (.aload_n 3, 1) := sorry
theorem dL_law_887 : decode cL_law 887 = .ok (.invokestatic 175, 3) := sorry
theorem dL_law_890 : decode cL_law 890 = .ok (.istore 6, 2) := sorry
theorem dL_law_892 : decode cL_law 892 = .ok (.aload_n 2, 1) := sorry
theorem dL_law_893 : decode cL_law 893 = .ok (.aload_n 0, 1) := sorry
theorem dL_law_894 : decode cL_law 894 = .ok (.iload 5, 2) := sorry
theorem dL_law_896 : decode cL_law 896 = .ok (.iconst 1, 1) := sorry
theorem dL_law_897 : decode cL_law 897 = .ok (.iadd, 1) := sorry
theorem dL_law_898 : decode cL_law 898 = .ok (.iaload, 1) := sorry
theorem dL_law_899 : decode cL_law 899 = .ok (.invokevirtual 177, 3) := sorry
theorem dL_law_902 : decode cL_law 902 = .ok (.istore 7, 2) := sorry
theorem dL_law_904 : decode cL_law 904 = .ok (.aload_n 2, 1) := sorry
theorem dL_law_905 : decode cL_law 905 = .ok (.invokevirtual 132, 3) := sorry
theorem dL_law_908 : decode cL_law 908 = .ok (.iload 6, 2) := sorry
theorem dL_law_910 : decode cL_law 910 = .ok (.if_icmp .eq 5, 3) := sorry
theorem dL_law_915 : decode cL_law 915 = .ok (.iload 6, 2) := sorry
theorem dL_law_917 : decode cL_law 917 = .ok (.ifCond .ne 15, 3) := sorry
theorem dL_law_920 : decode cL_law 920 = .ok (.aload_n 3, 1) := sorry
theorem dL_law_921 : decode cL_law 921 = .ok (.iconst 0, 1) := sorry
theorem dL_law_922 : decode cL_law 922 = .ok (.laload, 1) := sorry
theorem dL_law_923 : decode cL_law 923 = .ok (.iload 7, 2) := sorry
theorem dL_law_925 : decode cL_law 925 = .ok (.i2l, 1) := sorry
theorem dL_law_926 : decode cL_law 926 = .ok (.lcmp, 1) := sorry
theorem dL_law_927 : decode cL_law 927 = .ok (.ifCond .eq 5, 3) := sorry
theorem dL_law_932 : decode cL_law 932 = .ok (.goto 1342, 3) := sorry
theorem dL_law_935 : decode cL_law 935 = .ok (.aload_n 1, 1) := sorry
theorem dL_law_936 : decode cL_law 936 = .ok (.invokevirtual 178, 3) := sorry
theorem dL_law_939 : decode cL_law 939 = .ok (.aload_n 2, 1) := sorry
theorem dL_law_940 : decode cL_law 940 = .ok (.invokevirtual 181, 3) := sorry
theorem dL_law_943 : decode cL_law 943 = .ok (.if_icmp .eq 1331, 3) := sorry
theorem dL_law_948 : decode cL_law 948 = .ok (.aload_n 1, 1) := sorry
theorem dL_law_949 : decode cL_law 949 = .ok (.aload_n 3, 1) := sorry
theorem dL_law_950 : decode cL_law 950 = .ok (.invokestatic 182, 3) := sorry
theorem dL_law_953 : decode cL_law 953 = .ok (.istore 6, 2) := sorry
theorem dL_law_955 : decode cL_law 955 = .ok (.aload_n 2, 1) := sorry
theorem dL_law_956 : decode cL_law 956 = .ok (.invokevirtual 184, 3) := sorry
theorem dL_law_959 : decode cL_law 959 = .ok (.istore 7, 2) := sorry
theorem dL_law_961 : decode cL_law 961 = .ok (.aload_n 2, 1) := sorry
theorem dL_law_962 : decode cL_law 962 = .ok (.invokevirtual 132, 3) := sorry
theorem dL_law_965 : decode cL_law 965 = .ok (.iload 6, 2) := sorry
theorem dL_law_967 : decode cL_law 967 = .ok (.if_icmp .eq 5, 3) := sorry
theorem dL_law_972 : decode cL_law 972 = .ok (.iload 6, 2) := sorry
theorem dL_law_974 : decode cL_law 974 = .ok (.ifCond .ne 15, 3) := sorry
theorem dL_law_977 : decode cL_law 977 = .ok (.aload_n 3, 1) := sorry
theorem dL_law_978 : decode cL_law 978 = .ok (.iconst 0, 1) := sorry
theorem dL_law_979 : decode cL_law 979 = .ok (.laload, 1) := sorry
theorem dL_law_980 : decode cL_law 980 = .ok (.iload 7, 2) := sorry
theorem dL_law_982 : decode cL_law 982 = .ok (.i2l, 1) := sorry
theorem dL_law_983 : decode cL_law 983 = .ok (.lcmp, 1) := sorry
theorem dL_law_984 : decode cL_law 984 = .ok (.ifCond .eq 5, 3) := sorry
theorem dL_law_989 : decode cL_law 989 = .ok (.goto 1285, 3) := sorry
theorem dL_law_992 : decode cL_law 992 = .ok (.aload_n 1, 1) := sorry
theorem dL_law_993 : decode cL_law 993 = .ok (.aload_n 0, 1) := sorry
theorem dL_law_994 : decode cL_law 994 = .ok (.iload 5, 2) := sorry
theorem dL_law_996 : decode cL_law 996 = .ok (.iconst 1, 1) := sorry
theorem dL_law_997 : decode cL_law 997 = .ok (.iadd, 1) := sorry
theorem dL_law_998 : decode cL_law 998 = .ok (.iaload, 1) := sorry
theorem dL_law_999 : decode cL_law 999 = .ok (.aload_n 0, 1) := sorry
theorem dL_law_1000 : decode cL_law 1000 = .ok (.iload 5, 2) := sorry
theorem dL_law_1002 : decode cL_law 1002 = .ok (.iconst 2, 1) := sorry
theorem dL_law_1003 : decode cL_law 1003 = .ok (.iadd, 1) := sorry
theorem dL_law_1004 : decode cL_law 1004 = .ok (.iaload, 1) := sorry
theorem dL_law_1005 : decode cL_law 1005 = .ok (.aload_n 0, 1) := sorry
theorem dL_law_1006 : decode cL_law 1006 = .ok (.iload 5, 2) := sorry
theorem dL_law_1008 : decode cL_law 1008 = .ok (.iconst 3, 1) := sorry
theorem dL_law_1009 : decode cL_law 1009 = .ok (.iadd, 1) := sorry
theorem dL_law_1010 : decode cL_law 1010 = .ok (.iaload, 1) := sorry
theorem dL_law_1011 : decode cL_law 1011 = .ok (.ifCond .eq 7, 3) := sorry
theorem dL_law_1014 : decode cL_law 1014 = .ok (.iconst 1, 1) := sorry
theorem dL_law_1015 : decode cL_law 1015 = .ok (.goto 4, 3) := sorry
theorem dL_law_1018 : decode cL_law 1018 = .ok (.iconst 0, 1) := sorry
theorem dL_law_1019 : decode cL_law 1019 = .ok (.aload_n 3, 1) := sorry
theorem dL_law_1020 : decode cL_law 1020 = .ok (.invokestatic 185, 3) := sorry
theorem dL_law_1023 : decode cL_law 1023 = .ok (.istore 6, 2) := sorry
theorem dL_law_1025 : decode cL_law 1025 = .ok (.aload_n 2, 1) := sorry
theorem dL_law_1026 : decode cL_law 1026 = .ok (.aload_n 0, 1) := sorry
theorem dL_law_1027 : decode cL_law 1027 = .ok (.iload 5, 2) := sorry
theorem dL_law_1029 : decode cL_law 1029 = .ok (.iconst 1, 1) := sorry
theorem dL_law_1030 : decode cL_law 1030 = .ok (.iadd, 1) := sorry
theorem dL_law_1031 : decode cL_law 1031 = .ok (.iaload, 1) := sorry
theorem dL_law_1032 : decode cL_law 1032 = .ok (.aload_n 0, 1) := sorry
theorem dL_law_1033 : decode cL_law 1033 = .ok (.iload 5, 2) := sorry
theorem dL_law_1035 : decode cL_law 1035 = .ok (.iconst 2, 1) := sorry
theorem dL_law_1036 : decode cL_law 1036 = .ok (.iadd, 1) := sorry
theorem dL_law_1037 : decode cL_law 1037 = .ok (.iaload, 1) := sorry
theorem dL_law_1038 : decode cL_law 1038 = .ok (.aload_n 0, 1) := sorry
theorem dL_law_1039 : decode cL_law 1039 = .ok (.iload 5, 2) := sorry
theorem dL_law_1041 : decode cL_law 1041 = .ok (.iconst 3, 1) := sorry
theorem dL_law_1042 : decode cL_law 1042 = .ok (.iadd, 1) := sorry
theorem dL_law_1043 : decode cL_law 1043 = .ok (.iaload, 1) := sorry
theorem dL_law_1044 : decode cL_law 1044 = .ok (.ifCond .eq 7, 3) := sorry
theorem dL_law_1047 : decode cL_law 1047 = .ok (.iconst 1, 1) := sorry
theorem dL_law_1048 : decode cL_law 1048 = .ok (.goto 4, 3) := sorry
theorem dL_law_1051 : decode cL_law 1051 = .ok (.iconst 0, 1) := sorry
theorem dL_law_1052 : decode cL_law 1052 = .ok (.invokevirtual 188, 3) := sorry
theorem dL_law_1055 : decode cL_law 1055 = .ok (.istore 7, 2) := sorry
theorem dL_law_1057 : decode cL_law 1057 = .ok (.aload_n 2, 1) := sorry
theorem dL_law_1058 : decode cL_law 1058 = .ok (.invokevirtual 132, 3) := sorry
theorem dL_law_1061 : decode cL_law 1061 = .ok (.iload 6, 2) := sorry
theorem dL_law_1063 : decode cL_law 1063 = .ok (.if_icmp .eq 5, 3) := sorry
theorem dL_law_1068 : decode cL_law 1068 = .ok (.iload 6, 2) := sorry
theorem dL_law_1070 : decode cL_law 1070 = .ok (.ifCond .ne 22, 3) := sorry
theorem dL_law_1073 : decode cL_law 1073 = .ok (.aload_n 3, 1) := sorry
theorem dL_law_1074 : decode cL_law 1074 = .ok (.iconst 0, 1) := sorry
theorem dL_law_1075 : decode cL_law 1075 = .ok (.laload, 1) := sorry
theorem dL_law_1076 : decode cL_law 1076 = .ok (.iload 7, 2) := sorry
theorem dL_law_1078 : decode cL_law 1078 = .ok (.ifCond .eq 7, 3) := sorry
theorem dL_law_1081 : decode cL_law 1081 = .ok (.lconst 1, 1) := sorry
theorem dL_law_1082 : decode cL_law 1082 = .ok (.goto 4, 3) := sorry
theorem dL_law_1085 : decode cL_law 1085 = .ok (.lconst 0, 1) := sorry
theorem dL_law_1086 : decode cL_law 1086 = .ok (.lcmp, 1) := sorry
theorem dL_law_1087 : decode cL_law 1087 = .ok (.ifCond .eq 5, 3) := sorry
theorem dL_law_1092 : decode cL_law 1092 = .ok (.goto 1182, 3) := sorry
theorem dL_law_1095 : decode cL_law 1095 = .ok (.aload_n 1, 1) := sorry
theorem dL_law_1096 : decode cL_law 1096 = .ok (.aload_n 0, 1) := sorry
theorem dL_law_1097 : decode cL_law 1097 = .ok (.iload 5, 2) := sorry
theorem dL_law_1099 : decode cL_law 1099 = .ok (.iconst 1, 1) := sorry
theorem dL_law_1100 : decode cL_law 1100 = .ok (.iadd, 1) := sorry
theorem dL_law_1101 : decode cL_law 1101 = .ok (.iaload, 1) := sorry
theorem dL_law_1102 : decode cL_law 1102 = .ok (.aload_n 0, 1) := sorry
theorem dL_law_1103 : decode cL_law 1103 = .ok (.iload 5, 2) := sorry
theorem dL_law_1105 : decode cL_law 1105 = .ok (.iconst 2, 1) := sorry
theorem dL_law_1106 : decode cL_law 1106 = .ok (.iadd, 1) := sorry
theorem dL_law_1107 : decode cL_law 1107 = .ok (.iaload, 1) := sorry
theorem dL_law_1108 : decode cL_law 1108 = .ok (.aload_n 3, 1) := sorry
theorem dL_law_1109 : decode cL_law 1109 = .ok (.invokestatic 189, 3) := sorry
theorem dL_law_1112 : decode cL_law 1112 = .ok (.istore 6, 2) := sorry
theorem dL_law_1114 : decode cL_law 1114 = .ok (.aload_n 2, 1) := sorry
theorem dL_law_1115 : decode cL_law 1115 = .ok (.aload_n 0, 1) := sorry
theorem dL_law_1116 : decode cL_law 1116 = .ok (.iload 5, 2) := sorry
theorem dL_law_1118 : decode cL_law 1118 = .ok (.iconst 1, 1) := sorry
theorem dL_law_1119 : decode cL_law 1119 = .ok (.iadd, 1) := sorry
theorem dL_law_1120 : decode cL_law 1120 = .ok (.iaload, 1) := sorry
theorem dL_law_1121 : decode cL_law 1121 = .ok (.aload_n 0, 1) := sorry
theorem dL_law_1122 : decode cL_law 1122 = .ok (.iload 5, 2) := sorry
theorem dL_law_1124 : decode cL_law 1124 = .ok (.iconst 2, 1) := sorry
theorem dL_law_1125 : decode cL_law 1125 = .ok (.iadd, 1) := sorry
theorem dL_law_1126 : decode cL_law 1126 = .ok (.iaload, 1) := sorry
theorem dL_law_1127 : decode cL_law 1127 = .ok (.invokevirtual 191, 3) := sorry
theorem dL_law_1130 : decode cL_law 1130 = .ok (.istore 7, 2) := sorry
theorem dL_law_1132 : decode cL_law 1132 = .ok (.aload_n 2, 1) := sorry
theorem dL_law_1133 : decode cL_law 1133 = .ok (.invokevirtual 132, 3) := sorry
theorem dL_law_1136 : decode cL_law 1136 = .ok (.iload 6, 2) := sorry
theorem dL_law_1138 : decode cL_law 1138 = .ok (.if_icmp .eq 5, 3) := sorry
theorem dL_law_1143 : decode cL_law 1143 = .ok (.iload 6, 2) := sorry
theorem dL_law_1145 : decode cL_law 1145 = .ok (.ifCond .ne 15, 3) := sorry
theorem dL_law_1148 : decode cL_law 1148 = .ok (.aload_n 3, 1) := sorry
theorem dL_law_1149 : decode cL_law 1149 = .ok (.iconst 0, 1) := sorry
theorem dL_law_1150 : decode cL_law 1150 = .ok (.laload, 1) := sorry
theorem dL_law_1151 : decode cL_law 1151 = .ok (.iload 7, 2) := sorry
theorem dL_law_1153 : decode cL_law 1153 = .ok (.i2l, 1) := sorry
theorem dL_law_1154 : decode cL_law 1154 = .ok (.lcmp, 1) := sorry
theorem dL_law_1155 : decode cL_law 1155 = .ok (.ifCond .eq 5, 3) := sorry
theorem dL_law_1160 : decode cL_law 1160 = .ok (.goto 1114, 3) := sorry
theorem dL_law_1163 : decode cL_law 1163 = .ok (.aload_n 1, 1) := sorry
theorem dL_law_1164 : decode cL_law 1164 = .ok (.aload_n 0, 1) := sorry
theorem dL_law_1165 : decode cL_law 1165 = .ok (.iload 5, 2) := sorry
theorem dL_law_1167 : decode cL_law 1167 = .ok (.iconst 1, 1) := sorry
theorem dL_law_1168 : decode cL_law 1168 = .ok (.iadd, 1) := sorry
theorem dL_law_1169 : decode cL_law 1169 = .ok (.iaload, 1) := sorry
theorem dL_law_1170 : decode cL_law 1170 = .ok (.aload_n 0, 1) := sorry
theorem dL_law_1171 : decode cL_law 1171 = .ok (.iload 5, 2) := sorry
theorem dL_law_1173 : decode cL_law 1173 = .ok (.iconst 2, 1) := sorry
theorem dL_law_1174 : decode cL_law 1174 = .ok (.iadd, 1) := sorry
theorem dL_law_1175 : decode cL_law 1175 = .ok (.iaload, 1) := sorry
theorem dL_law_1176 : decode cL_law 1176 = .ok (.ifCond .eq 7, 3) := sorry
theorem dL_law_1179 : decode cL_law 1179 = .ok (.iconst 1, 1) := sorry
theorem dL_law_1180 : decode cL_law 1180 = .ok (.goto 4, 3) := sorry
theorem dL_law_1183 : decode cL_law 1183 = .ok (.iconst 0, 1) := sorry
theorem dL_law_1184 : decode cL_law 1184 = .ok (.aload_n 3, 1) := sorry
theorem dL_law_1185 : decode cL_law 1185 = .ok (.invokestatic 192, 3) := sorry
theorem dL_law_1188 : decode cL_law 1188 = .ok (.istore 6, 2) := sorry
theorem dL_law_1190 : decode cL_law 1190 = .ok (.aload_n 2, 1) := sorry
theorem dL_law_1191 : decode cL_law 1191 = .ok (.aload_n 0, 1) := sorry
theorem dL_law_1192 : decode cL_law 1192 = .ok (.iload 5, 2) := sorry
theorem dL_law_1194 : decode cL_law 1194 = .ok (.iconst 1, 1) := sorry
theorem dL_law_1195 : decode cL_law 1195 = .ok (.iadd, 1) := sorry
theorem dL_law_1196 : decode cL_law 1196 = .ok (.iaload, 1) := sorry
theorem dL_law_1197 : decode cL_law 1197 = .ok (.aload_n 0, 1) := sorry
theorem dL_law_1198 : decode cL_law 1198 = .ok (.iload 5, 2) := sorry
theorem dL_law_1200 : decode cL_law 1200 = .ok (.iconst 2, 1) := sorry
theorem dL_law_1201 : decode cL_law 1201 = .ok (.iadd, 1) := sorry
theorem dL_law_1202 : decode cL_law 1202 = .ok (.iaload, 1) := sorry
theorem dL_law_1203 : decode cL_law 1203 = .ok (.ifCond .eq 7, 3) := sorry
theorem dL_law_1206 : decode cL_law 1206 = .ok (.iconst 1, 1) := sorry
theorem dL_law_1207 : decode cL_law 1207 = .ok (.goto 4, 3) := sorry
theorem dL_law_1210 : decode cL_law 1210 = .ok (.iconst 0, 1) := sorry
theorem dL_law_1211 : decode cL_law 1211 = .ok (.invokevirtual 194, 3) := sorry
theorem dL_law_1214 : decode cL_law 1214 = .ok (.istore 7, 2) := sorry
theorem dL_law_1216 : decode cL_law 1216 = .ok (.aload_n 2, 1) := sorry
theorem dL_law_1217 : decode cL_law 1217 = .ok (.invokevirtual 132, 3) := sorry
theorem dL_law_1220 : decode cL_law 1220 = .ok (.iload 6, 2) := sorry
theorem dL_law_1222 : decode cL_law 1222 = .ok (.if_icmp .eq 5, 3) := sorry
theorem dL_law_1227 : decode cL_law 1227 = .ok (.iload 6, 2) := sorry
theorem dL_law_1229 : decode cL_law 1229 = .ok (.ifCond .ne 22, 3) := sorry
theorem dL_law_1232 : decode cL_law 1232 = .ok (.aload_n 3, 1) := sorry
theorem dL_law_1233 : decode cL_law 1233 = .ok (.iconst 0, 1) := sorry
theorem dL_law_1234 : decode cL_law 1234 = .ok (.laload, 1) := sorry
theorem dL_law_1235 : decode cL_law 1235 = .ok (.iload 7, 2) := sorry
theorem dL_law_1237 : decode cL_law 1237 = .ok (.ifCond .eq 7, 3) := sorry
theorem dL_law_1240 : decode cL_law 1240 = .ok (.lconst 1, 1) := sorry
theorem dL_law_1241 : decode cL_law 1241 = .ok (.goto 4, 3) := sorry
theorem dL_law_1244 : decode cL_law 1244 = .ok (.lconst 0, 1) := sorry
theorem dL_law_1245 : decode cL_law 1245 = .ok (.lcmp, 1) := sorry
theorem dL_law_1246 : decode cL_law 1246 = .ok (.ifCond .eq 5, 3) := sorry
theorem dL_law_1251 : decode cL_law 1251 = .ok (.goto 1023, 3) := sorry
theorem dL_law_1254 : decode cL_law 1254 = .ok (.aload_n 1, 1) := sorry
theorem dL_law_1255 : decode cL_law 1255 = .ok (.aload_n 0, 1) := sorry
theorem dL_law_1256 : decode cL_law 1256 = .ok (.iload 5, 2) := sorry
theorem dL_law_1258 : decode cL_law 1258 = .ok (.iconst 1, 1) := sorry
theorem dL_law_1259 : decode cL_law 1259 = .ok (.iadd, 1) := sorry
theorem dL_law_1260 : decode cL_law 1260 = .ok (.iaload, 1) := sorry
theorem dL_law_1261 : decode cL_law 1261 = .ok (.aload_n 3, 1) := sorry
theorem dL_law_1262 : decode cL_law 1262 = .ok (.invokestatic 195, 3) := sorry
theorem dL_law_1265 : decode cL_law 1265 = .ok (.istore 6, 2) := sorry
theorem dL_law_1267 : decode cL_law 1267 = .ok (.aload_n 2, 1) := sorry
theorem dL_law_1268 : decode cL_law 1268 = .ok (.aload_n 0, 1) := sorry
theorem dL_law_1269 : decode cL_law 1269 = .ok (.iload 5, 2) := sorry
theorem dL_law_1271 : decode cL_law 1271 = .ok (.iconst 1, 1) := sorry
theorem dL_law_1272 : decode cL_law 1272 = .ok (.iadd, 1) := sorry
theorem dL_law_1273 : decode cL_law 1273 = .ok (.iaload, 1) := sorry
theorem dL_law_1274 : decode cL_law 1274 = .ok (.invokevirtual 197, 3) := sorry
theorem dL_law_1277 : decode cL_law 1277 = .ok (.istore 7, 2) := sorry
theorem dL_law_1279 : decode cL_law 1279 = .ok (.aload_n 2, 1) := sorry
theorem dL_law_1280 : decode cL_law 1280 = .ok (.invokevirtual 132, 3) := sorry
theorem dL_law_1283 : decode cL_law 1283 = .ok (.iload 6, 2) := sorry
theorem dL_law_1285 : decode cL_law 1285 = .ok (.if_icmp .eq 5, 3) := sorry
theorem dL_law_1290 : decode cL_law 1290 = .ok (.iload 6, 2) := sorry
theorem dL_law_1292 : decode cL_law 1292 = .ok (.ifCond .ne 15, 3) := sorry
theorem dL_law_1295 : decode cL_law 1295 = .ok (.aload_n 3, 1) := sorry
theorem dL_law_1296 : decode cL_law 1296 = .ok (.iconst 0, 1) := sorry
theorem dL_law_1297 : decode cL_law 1297 = .ok (.laload, 1) := sorry
theorem dL_law_1298 : decode cL_law 1298 = .ok (.iload 7, 2) := sorry
theorem dL_law_1300 : decode cL_law 1300 = .ok (.i2l, 1) := sorry
theorem dL_law_1301 : decode cL_law 1301 = .ok (.lcmp, 1) := sorry
theorem dL_law_1302 : decode cL_law 1302 = .ok (.ifCond .eq 5, 3) := sorry
theorem dL_law_1307 : decode cL_law 1307 = .ok (.goto 967, 3) := sorry
theorem dL_law_1310 : decode cL_law 1310 = .ok (.aload_n 1, 1) := sorry
theorem dL_law_1311 : decode cL_law 1311 = .ok (.aload_n 0, 1) := sorry
theorem dL_law_1312 : decode cL_law 1312 = .ok (.iload 5, 2) := sorry
theorem dL_law_1314 : decode cL_law 1314 = .ok (.iconst 1, 1) := sorry
theorem dL_law_1315 : decode cL_law 1315 = .ok (.iadd, 1) := sorry
theorem dL_law_1316 : decode cL_law 1316 = .ok (.iaload, 1) := sorry
theorem dL_law_1317 : decode cL_law 1317 = .ok (.aload_n 3, 1) := sorry
theorem dL_law_1318 : decode cL_law 1318 = .ok (.invokestatic 198, 3) := sorry
theorem dL_law_1321 : decode cL_law 1321 = .ok (.istore 6, 2) := sorry
theorem dL_law_1323 : decode cL_law 1323 = .ok (.aload_n 2, 1) := sorry
theorem dL_law_1324 : decode cL_law 1324 = .ok (.aload_n 0, 1) := sorry
theorem dL_law_1325 : decode cL_law 1325 = .ok (.iload 5, 2) := sorry
theorem dL_law_1327 : decode cL_law 1327 = .ok (.iconst 1, 1) := sorry
theorem dL_law_1328 : decode cL_law 1328 = .ok (.iadd, 1) := sorry
theorem dL_law_1329 : decode cL_law 1329 = .ok (.iaload, 1) := sorry
theorem dL_law_1330 : decode cL_law 1330 = .ok (.invokevirtual 200, 3) := sorry
theorem dL_law_1333 : decode cL_law 1333 = .ok (.istore 7, 2) := sorry
theorem dL_law_1335 : decode cL_law 1335 = .ok (.aload_n 2, 1) := sorry
theorem dL_law_1336 : decode cL_law 1336 = .ok (.invokevirtual 132, 3) := sorry
theorem dL_law_1339 : decode cL_law 1339 = .ok (.iload 6, 2) := sorry
theorem dL_law_1341 : decode cL_law 1341 = .ok (.if_icmp .eq 5, 3) := sorry
theorem dL_law_1346 : decode cL_law 1346 = .ok (.iload 6, 2) := sorry
theorem dL_law_1348 : decode cL_law 1348 = .ok (.ifCond .ne 15, 3) := sorry
theorem dL_law_1351 : decode cL_law 1351 = .ok (.aload_n 3, 1) := sorry
theorem dL_law_1352 : decode cL_law 1352 = .ok (.iconst 0, 1) := sorry
theorem dL_law_1353 : decode cL_law 1353 = .ok (.laload, 1) := sorry
theorem dL_law_1354 : decode cL_law 1354 = .ok (.iload 7, 2) := sorry
theorem dL_law_1356 : decode cL_law 1356 = .ok (.i2l, 1) := sorry
theorem dL_law_1357 : decode cL_law 1357 = .ok (.lcmp, 1) := sorry
theorem dL_law_1358 : decode cL_law 1358 = .ok (.ifCond .eq 5, 3) := sorry
theorem dL_law_1363 : decode cL_law 1363 = .ok (.goto 911, 3) := sorry
theorem dL_law_1366 : decode cL_law 1366 = .ok (.aload_n 1, 1) := sorry
theorem dL_law_1367 : decode cL_law 1367 = .ok (.aload_n 0, 1) := sorry
theorem dL_law_1368 : decode cL_law 1368 = .ok (.iload 5, 2) := sorry
theorem dL_law_1370 : decode cL_law 1370 = .ok (.iconst 1, 1) := sorry
theorem dL_law_1371 : decode cL_law 1371 = .ok (.iadd, 1) := sorry
theorem dL_law_1372 : decode cL_law 1372 = .ok (.iaload, 1) := sorry
theorem dL_law_1373 : decode cL_law 1373 = .ok (.aload_n 0, 1) := sorry
theorem dL_law_1374 : decode cL_law 1374 = .ok (.iload 5, 2) := sorry
theorem dL_law_1376 : decode cL_law 1376 = .ok (.iconst 2, 1) := sorry
theorem dL_law_1377 : decode cL_law 1377 = .ok (.iadd, 1) := sorry
theorem dL_law_1378 : decode cL_law 1378 = .ok (.iaload, 1) := sorry
theorem dL_law_1379 : decode cL_law 1379 = .ok (.i2c, 1) := sorry
theorem dL_law_1380 : decode cL_law 1380 = .ok (.aload_n 0, 1) := sorry
theorem dL_law_1381 : decode cL_law 1381 = .ok (.iload 5, 2) := sorry
theorem dL_law_1383 : decode cL_law 1383 = .ok (.iconst 3, 1) := sorry
theorem dL_law_1384 : decode cL_law 1384 = .ok (.iadd, 1) := sorry
theorem dL_law_1385 : decode cL_law 1385 = .ok (.iaload, 1) := sorry
theorem dL_law_1386 : decode cL_law 1386 = .ok (.aload_n 0, 1) := sorry
theorem dL_law_1387 : decode cL_law 1387 = .ok (.iload 5, 2) := sorry
theorem dL_law_1389 : decode cL_law 1389 = .ok (.iconst 4, 1) := sorry
theorem dL_law_1390 : decode cL_law 1390 = .ok (.iadd, 1) := sorry
theorem dL_law_1391 : decode cL_law 1391 = .ok (.iaload, 1) := sorry
theorem dL_law_1392 : decode cL_law 1392 = .ok (.aload_n 0, 1) := sorry
theorem dL_law_1393 : decode cL_law 1393 = .ok (.iload 5, 2) := sorry
theorem dL_law_1395 : decode cL_law 1395 = .ok (.iconst 5, 1) := sorry
theorem dL_law_1396 : decode cL_law 1396 = .ok (.iadd, 1) := sorry
theorem dL_law_1397 : decode cL_law 1397 = .ok (.iaload, 1) := sorry
theorem dL_law_1398 : decode cL_law 1398 = .ok (.aload_n 3, 1) := sorry
theorem dL_law_1399 : decode cL_law 1399 = .ok (.invokestatic 201, 3) := sorry
theorem dL_law_1402 : decode cL_law 1402 = .ok (.istore 6, 2) := sorry
theorem dL_law_1404 : decode cL_law 1404 = .ok (.aload_n 2, 1) := sorry
theorem dL_law_1405 : decode cL_law 1405 = .ok (.aload_n 0, 1) := sorry
theorem dL_law_1406 : decode cL_law 1406 = .ok (.iload 5, 2) := sorry
theorem dL_law_1408 : decode cL_law 1408 = .ok (.iconst 1, 1) := sorry
theorem dL_law_1409 : decode cL_law 1409 = .ok (.iadd, 1) := sorry
theorem dL_law_1410 : decode cL_law 1410 = .ok (.iaload, 1) := sorry
theorem dL_law_1411 : decode cL_law 1411 = .ok (.aload_n 0, 1) := sorry
theorem dL_law_1412 : decode cL_law 1412 = .ok (.iload 5, 2) := sorry
theorem dL_law_1414 : decode cL_law 1414 = .ok (.iconst 2, 1) := sorry
theorem dL_law_1415 : decode cL_law 1415 = .ok (.iadd, 1) := sorry
theorem dL_law_1416 : decode cL_law 1416 = .ok (.iaload, 1) := sorry
theorem dL_law_1417 : decode cL_law 1417 = .ok (.i2c, 1) := sorry
theorem dL_law_1418 : decode cL_law 1418 = .ok (.aload_n 0, 1) := sorry
theorem dL_law_1419 : decode cL_law 1419 = .ok (.iload 5, 2) := sorry
theorem dL_law_1421 : decode cL_law 1421 = .ok (.iconst 3, 1) := sorry
theorem dL_law_1422 : decode cL_law 1422 = .ok (.iadd, 1) := sorry
theorem dL_law_1423 : decode cL_law 1423 = .ok (.iaload, 1) := sorry
theorem dL_law_1424 : decode cL_law 1424 = .ok (.aload_n 0, 1) := sorry
theorem dL_law_1425 : decode cL_law 1425 = .ok (.iload 5, 2) := sorry
theorem dL_law_1427 : decode cL_law 1427 = .ok (.iconst 4, 1) := sorry
theorem dL_law_1428 : decode cL_law 1428 = .ok (.iadd, 1) := sorry
theorem dL_law_1429 : decode cL_law 1429 = .ok (.iaload, 1) := sorry
theorem dL_law_1430 : decode cL_law 1430 = .ok (.aload_n 0, 1) := sorry
theorem dL_law_1431 : decode cL_law 1431 = .ok (.iload 5, 2) := sorry
theorem dL_law_1433 : decode cL_law 1433 = .ok (.iconst 5, 1) := sorry
theorem dL_law_1434 : decode cL_law 1434 = .ok (.iadd, 1) := sorry
theorem dL_law_1435 : decode cL_law 1435 = .ok (.iaload, 1) := sorry
theorem dL_law_1436 : decode cL_law 1436 = .ok (.invokevirtual 204, 3) := sorry
theorem dL_law_1439 : decode cL_law 1439 = .ok (.istore 7, 2) := sorry
theorem dL_law_1441 : decode cL_law 1441 = .ok (.aload_n 2, 1) := sorry
theorem dL_law_1442 : decode cL_law 1442 = .ok (.invokevirtual 132, 3) := sorry
theorem dL_law_1445 : decode cL_law 1445 = .ok (.iload 6, 2) := sorry
theorem dL_law_1447 : decode cL_law 1447 = .ok (.if_icmp .eq 5, 3) := sorry
theorem dL_law_1452 : decode cL_law 1452 = .ok (.iload 6, 2) := sorry
theorem dL_law_1454 : decode cL_law 1454 = .ok (.ifCond .ne 15, 3) := sorry
theorem dL_law_1457 : decode cL_law 1457 = .ok (.aload_n 3, 1) := sorry
theorem dL_law_1458 : decode cL_law 1458 = .ok (.iconst 0, 1) := sorry
theorem dL_law_1459 : decode cL_law 1459 = .ok (.laload, 1) := sorry
theorem dL_law_1460 : decode cL_law 1460 = .ok (.iload 7, 2) := sorry
theorem dL_law_1462 : decode cL_law 1462 = .ok (.i2l, 1) := sorry
theorem dL_law_1463 : decode cL_law 1463 = .ok (.lcmp, 1) := sorry
theorem dL_law_1464 : decode cL_law 1464 = .ok (.ifCond .eq 5, 3) := sorry
theorem dL_law_1469 : decode cL_law 1469 = .ok (.goto 805, 3) := sorry
theorem dL_law_1472 : decode cL_law 1472 = .ok (.aload_n 1, 1) := sorry
theorem dL_law_1473 : decode cL_law 1473 = .ok (.aload_n 0, 1) := sorry
theorem dL_law_1474 : decode cL_law 1474 = .ok (.iload 5, 2) := sorry
theorem dL_law_1476 : decode cL_law 1476 = .ok (.iconst 1, 1) := sorry
theorem dL_law_1477 : decode cL_law 1477 = .ok (.iadd, 1) := sorry
theorem dL_law_1478 : decode cL_law 1478 = .ok (.iaload, 1) := sorry
theorem dL_law_1479 : decode cL_law 1479 = .ok (.aload_n 3, 1) := sorry
theorem dL_law_1480 : decode cL_law 1480 = .ok (.invokestatic 205, 3) := sorry
theorem dL_law_1483 : decode cL_law 1483 = .ok (.istore 6, 2) := sorry
theorem dL_law_1485 : decode cL_law 1485 = .ok (.aload_n 2, 1) := sorry
theorem dL_law_1486 : decode cL_law 1486 = .ok (.aload_n 0, 1) := sorry
theorem dL_law_1487 : decode cL_law 1487 = .ok (.iload 5, 2) := sorry
theorem dL_law_1489 : decode cL_law 1489 = .ok (.iconst 1, 1) := sorry
theorem dL_law_1490 : decode cL_law 1490 = .ok (.iadd, 1) := sorry
theorem dL_law_1491 : decode cL_law 1491 = .ok (.iaload, 1) := sorry
theorem dL_law_1492 : decode cL_law 1492 = .ok (.invokevirtual 207, 3) := sorry
theorem dL_law_1495 : decode cL_law 1495 = .ok (.istore 7, 2) := sorry
theorem dL_law_1497 : decode cL_law 1497 = .ok (.aload_n 2, 1) := sorry
theorem dL_law_1498 : decode cL_law 1498 = .ok (.invokevirtual 132, 3) := sorry
theorem dL_law_1501 : decode cL_law 1501 = .ok (.iload 6, 2) := sorry
theorem dL_law_1503 : decode cL_law 1503 = .ok (.if_icmp .eq 5, 3) := sorry
theorem dL_law_1508 : decode cL_law 1508 = .ok (.iload 6, 2) := sorry
theorem dL_law_1510 : decode cL_law 1510 = .ok (.ifCond .ne 15, 3) := sorry
theorem dL_law_1513 : decode cL_law 1513 = .ok (.aload_n 3, 1) := sorry
theorem dL_law_1514 : decode cL_law 1514 = .ok (.iconst 0, 1) := sorry
theorem dL_law_1515 : decode cL_law 1515 = .ok (.laload, 1) := sorry
theorem dL_law_1516 : decode cL_law 1516 = .ok (.iload 7, 2) := sorry
theorem dL_law_1518 : decode cL_law 1518 = .ok (.i2l, 1) := sorry
theorem dL_law_1519 : decode cL_law 1519 = .ok (.lcmp, 1) := sorry
theorem dL_law_1520 : decode cL_law 1520 = .ok (.ifCond .eq 5, 3) := sorry
theorem dL_law_1525 : decode cL_law 1525 = .ok (.goto 749, 3) := sorry
theorem dL_law_1528 : decode cL_law 1528 = .ok (.aload_n 1, 1) := sorry
theorem dL_law_1529 : decode cL_law 1529 = .ok (.aload_n 0, 1) := sorry
theorem dL_law_1530 : decode cL_law 1530 = .ok (.iload 5, 2) := sorry
theorem dL_law_1532 : decode cL_law 1532 = .ok (.iconst 1, 1) := sorry
theorem dL_law_1533 : decode cL_law 1533 = .ok (.iadd, 1) := sorry
theorem dL_law_1534 : decode cL_law 1534 = .ok (.iaload, 1) := sorry
theorem dL_law_1535 : decode cL_law 1535 = .ok (.aload_n 3, 1) := sorry
theorem dL_law_1536 : decode cL_law 1536 = .ok (.invokestatic 208, 3) := sorry
theorem dL_law_1539 : decode cL_law 1539 = .ok (.istore 6, 2) := sorry
theorem dL_law_1541 : decode cL_law 1541 = .ok (.aload_n 2, 1) := sorry
theorem dL_law_1542 : decode cL_law 1542 = .ok (.aload_n 0, 1) := sorry
theorem dL_law_1543 : decode cL_law 1543 = .ok (.iload 5, 2) := sorry
theorem dL_law_1545 : decode cL_law 1545 = .ok (.iconst 1, 1) := sorry
theorem dL_law_1546 : decode cL_law 1546 = .ok (.iadd, 1) := sorry
theorem dL_law_1547 : decode cL_law 1547 = .ok (.iaload, 1) := sorry
theorem dL_law_1548 : decode cL_law 1548 = .ok (.invokevirtual 210, 3) := sorry
theorem dL_law_1551 : decode cL_law 1551 = .ok (.istore 7, 2) := sorry
theorem dL_law_1553 : decode cL_law 1553 = .ok (.aload_n 2, 1) := sorry
theorem dL_law_1554 : decode cL_law 1554 = .ok (.invokevirtual 132, 3) := sorry
theorem dL_law_1557 : decode cL_law 1557 = .ok (.iload 6, 2) := sorry
theorem dL_law_1559 : decode cL_law 1559 = .ok (.if_icmp .eq 5, 3) := sorry
theorem dL_law_1564 : decode cL_law 1564 = .ok (.iload 6, 2) := sorry
theorem dL_law_1566 : decode cL_law 1566 = .ok (.ifCond .ne 15, 3) := sorry
theorem dL_law_1569 : decode cL_law 1569 = .ok (.aload_n 3, 1) := sorry
theorem dL_law_1570 : decode cL_law 1570 = .ok (.iconst 0, 1) := sorry
theorem dL_law_1571 : decode cL_law 1571 = .ok (.laload, 1) := sorry
theorem dL_law_1572 : decode cL_law 1572 = .ok (.iload 7, 2) := sorry
theorem dL_law_1574 : decode cL_law 1574 = .ok (.i2l, 1) := sorry
theorem dL_law_1575 : decode cL_law 1575 = .ok (.lcmp, 1) := sorry
theorem dL_law_1576 : decode cL_law 1576 = .ok (.ifCond .eq 5, 3) := sorry
theorem dL_law_1581 : decode cL_law 1581 = .ok (.goto 693, 3) := sorry
theorem dL_law_1584 : decode cL_law 1584 = .ok (.aload_n 1, 1) := sorry
theorem dL_law_1585 : decode cL_law 1585 = .ok (.aload_n 0, 1) := sorry
theorem dL_law_1586 : decode cL_law 1586 = .ok (.iload 5, 2) := sorry
theorem dL_law_1588 : decode cL_law 1588 = .ok (.iconst 1, 1) := sorry
theorem dL_law_1589 : decode cL_law 1589 = .ok (.iadd, 1) := sorry
theorem dL_law_1590 : decode cL_law 1590 = .ok (.iaload, 1) := sorry
theorem dL_law_1591 : decode cL_law 1591 = .ok (.aload_n 0, 1) := sorry
theorem dL_law_1592 : decode cL_law 1592 = .ok (.iload 5, 2) := sorry
theorem dL_law_1594 : decode cL_law 1594 = .ok (.iconst 2, 1) := sorry
theorem dL_law_1595 : decode cL_law 1595 = .ok (.iadd, 1) := sorry
theorem dL_law_1596 : decode cL_law 1596 = .ok (.iaload, 1) := sorry
theorem dL_law_1597 : decode cL_law 1597 = .ok (.aload_n 3, 1) := sorry
theorem dL_law_1598 : decode cL_law 1598 = .ok (.invokestatic 211, 3) := sorry
theorem dL_law_1601 : decode cL_law 1601 = .ok (.istore 6, 2) := sorry
theorem dL_law_1603 : decode cL_law 1603 = .ok (.aload_n 2, 1) := sorry
theorem dL_law_1604 : decode cL_law 1604 = .ok (.aload_n 0, 1) := sorry
theorem dL_law_1605 : decode cL_law 1605 = .ok (.iload 5, 2) := sorry
theorem dL_law_1607 : decode cL_law 1607 = .ok (.iconst 1, 1) := sorry
theorem dL_law_1608 : decode cL_law 1608 = .ok (.iadd, 1) := sorry
theorem dL_law_1609 : decode cL_law 1609 = .ok (.iaload, 1) := sorry
theorem dL_law_1610 : decode cL_law 1610 = .ok (.aload_n 0, 1) := sorry
theorem dL_law_1611 : decode cL_law 1611 = .ok (.iload 5, 2) := sorry
theorem dL_law_1613 : decode cL_law 1613 = .ok (.iconst 2, 1) := sorry
theorem dL_law_1614 : decode cL_law 1614 = .ok (.iadd, 1) := sorry
theorem dL_law_1615 : decode cL_law 1615 = .ok (.iaload, 1) := sorry
theorem dL_law_1616 : decode cL_law 1616 = .ok (.invokevirtual 213, 3) := sorry
theorem dL_law_1619 : decode cL_law 1619 = .ok (.istore 7, 2) := sorry
theorem dL_law_1621 : decode cL_law 1621 = .ok (.aload_n 2, 1) := sorry
theorem dL_law_1622 : decode cL_law 1622 = .ok (.invokevirtual 132, 3) := sorry
theorem dL_law_1625 : decode cL_law 1625 = .ok (.iload 6, 2) := sorry
theorem dL_law_1627 : decode cL_law 1627 = .ok (.if_icmp .eq 5, 3) := sorry
theorem dL_law_1632 : decode cL_law 1632 = .ok (.iload 6, 2) := sorry
theorem dL_law_1634 : decode cL_law 1634 = .ok (.ifCond .ne 15, 3) := sorry
theorem dL_law_1637 : decode cL_law 1637 = .ok (.aload_n 3, 1) := sorry
theorem dL_law_1638 : decode cL_law 1638 = .ok (.iconst 0, 1) := sorry
theorem dL_law_1639 : decode cL_law 1639 = .ok (.laload, 1) := sorry
theorem dL_law_1640 : decode cL_law 1640 = .ok (.iload 7, 2) := sorry
theorem dL_law_1642 : decode cL_law 1642 = .ok (.i2l, 1) := sorry
theorem dL_law_1643 : decode cL_law 1643 = .ok (.lcmp, 1) := sorry
theorem dL_law_1644 : decode cL_law 1644 = .ok (.ifCond .eq 5, 3) := sorry
theorem dL_law_1649 : decode cL_law 1649 = .ok (.goto 625, 3) := sorry
theorem dL_law_1652 : decode cL_law 1652 = .ok (.aload_n 1, 1) := sorry
theorem dL_law_1653 : decode cL_law 1653 = .ok (.aload_n 0, 1) := sorry
theorem dL_law_1654 : decode cL_law 1654 = .ok (.iload 5, 2) := sorry
theorem dL_law_1656 : decode cL_law 1656 = .ok (.iconst 1, 1) := sorry
theorem dL_law_1657 : decode cL_law 1657 = .ok (.iadd, 1) := sorry
theorem dL_law_1658 : decode cL_law 1658 = .ok (.iaload, 1) := sorry
theorem dL_law_1659 : decode cL_law 1659 = .ok (.aload_n 0, 1) := sorry
theorem dL_law_1660 : decode cL_law 1660 = .ok (.iload 5, 2) := sorry
theorem dL_law_1662 : decode cL_law 1662 = .ok (.iconst 2, 1) := sorry
theorem dL_law_1663 : decode cL_law 1663 = .ok (.iadd, 1) := sorry
theorem dL_law_1664 : decode cL_law 1664 = .ok (.iaload, 1) := sorry
theorem dL_law_1665 : decode cL_law 1665 = .ok (.aload_n 3, 1) := sorry
theorem dL_law_1666 : decode cL_law 1666 = .ok (.invokestatic 214, 3) := sorry
theorem dL_law_1669 : decode cL_law 1669 = .ok (.istore 6, 2) := sorry
theorem dL_law_1671 : decode cL_law 1671 = .ok (.aload_n 2, 1) := sorry
theorem dL_law_1672 : decode cL_law 1672 = .ok (.aload_n 0, 1) := sorry
theorem dL_law_1673 : decode cL_law 1673 = .ok (.iload 5, 2) := sorry
theorem dL_law_1675 : decode cL_law 1675 = .ok (.iconst 1, 1) := sorry
theorem dL_law_1676 : decode cL_law 1676 = .ok (.iadd, 1) := sorry
theorem dL_law_1677 : decode cL_law 1677 = .ok (.iaload, 1) := sorry
theorem dL_law_1678 : decode cL_law 1678 = .ok (.aload_n 0, 1) := sorry
theorem dL_law_1679 : decode cL_law 1679 = .ok (.iload 5, 2) := sorry
theorem dL_law_1681 : decode cL_law 1681 = .ok (.iconst 2, 1) := sorry
theorem dL_law_1682 : decode cL_law 1682 = .ok (.iadd, 1) := sorry
theorem dL_law_1683 : decode cL_law 1683 = .ok (.iaload, 1) := sorry
theorem dL_law_1684 : decode cL_law 1684 = .ok (.invokevirtual 216, 3) := sorry
theorem dL_law_1687 : decode cL_law 1687 = .ok (.istore 7, 2) := sorry
theorem dL_law_1689 : decode cL_law 1689 = .ok (.aload_n 2, 1) := sorry
theorem dL_law_1690 : decode cL_law 1690 = .ok (.invokevirtual 132, 3) := sorry
theorem dL_law_1693 : decode cL_law 1693 = .ok (.iload 6, 2) := sorry
theorem dL_law_1695 : decode cL_law 1695 = .ok (.if_icmp .eq 5, 3) := sorry
theorem dL_law_1700 : decode cL_law 1700 = .ok (.iload 6, 2) := sorry
theorem dL_law_1702 : decode cL_law 1702 = .ok (.ifCond .ne 15, 3) := sorry
theorem dL_law_1705 : decode cL_law 1705 = .ok (.aload_n 3, 1) := sorry
theorem dL_law_1706 : decode cL_law 1706 = .ok (.iconst 0, 1) := sorry
theorem dL_law_1707 : decode cL_law 1707 = .ok (.laload, 1) := sorry
theorem dL_law_1708 : decode cL_law 1708 = .ok (.iload 7, 2) := sorry
theorem dL_law_1710 : decode cL_law 1710 = .ok (.i2l, 1) := sorry
theorem dL_law_1711 : decode cL_law 1711 = .ok (.lcmp, 1) := sorry
theorem dL_law_1712 : decode cL_law 1712 = .ok (.ifCond .eq 5, 3) := sorry
theorem dL_law_1717 : decode cL_law 1717 = .ok (.goto 557, 3) := sorry
theorem dL_law_1720 : decode cL_law 1720 = .ok (.aload_n 1, 1) := sorry
theorem dL_law_1721 : decode cL_law 1721 = .ok (.aload_n 0, 1) := sorry
theorem dL_law_1722 : decode cL_law 1722 = .ok (.iload 5, 2) := sorry
theorem dL_law_1724 : decode cL_law 1724 = .ok (.iconst 1, 1) := sorry
theorem dL_law_1725 : decode cL_law 1725 = .ok (.iadd, 1) := sorry
theorem dL_law_1726 : decode cL_law 1726 = .ok (.iaload, 1) := sorry
theorem dL_law_1727 : decode cL_law 1727 = .ok (.aload_n 3, 1) := sorry
theorem dL_law_1728 : decode cL_law 1728 = .ok (.invokestatic 217, 3) := sorry
theorem dL_law_1731 : decode cL_law 1731 = .ok (.istore 6, 2) := sorry
theorem dL_law_1733 : decode cL_law 1733 = .ok (.aload_n 2, 1) := sorry
theorem dL_law_1734 : decode cL_law 1734 = .ok (.aload_n 0, 1) := sorry
theorem dL_law_1735 : decode cL_law 1735 = .ok (.iload 5, 2) := sorry
theorem dL_law_1737 : decode cL_law 1737 = .ok (.iconst 1, 1) := sorry
theorem dL_law_1738 : decode cL_law 1738 = .ok (.iadd, 1) := sorry
theorem dL_law_1739 : decode cL_law 1739 = .ok (.iaload, 1) := sorry
theorem dL_law_1740 : decode cL_law 1740 = .ok (.invokevirtual 219, 3) := sorry
theorem dL_law_1743 : decode cL_law 1743 = .ok (.istore 7, 2) := sorry
theorem dL_law_1745 : decode cL_law 1745 = .ok (.aload_n 2, 1) := sorry
theorem dL_law_1746 : decode cL_law 1746 = .ok (.invokevirtual 132, 3) := sorry
theorem dL_law_1749 : decode cL_law 1749 = .ok (.iload 6, 2) := sorry
theorem dL_law_1751 : decode cL_law 1751 = .ok (.if_icmp .eq 5, 3) := sorry
theorem dL_law_1756 : decode cL_law 1756 = .ok (.iload 6, 2) := sorry
theorem dL_law_1758 : decode cL_law 1758 = .ok (.ifCond .ne 15, 3) := sorry
theorem dL_law_1761 : decode cL_law 1761 = .ok (.aload_n 3, 1) := sorry
theorem dL_law_1762 : decode cL_law 1762 = .ok (.iconst 0, 1) := sorry
theorem dL_law_1763 : decode cL_law 1763 = .ok (.laload, 1) := sorry
theorem dL_law_1764 : decode cL_law 1764 = .ok (.iload 7, 2) := sorry
theorem dL_law_1766 : decode cL_law 1766 = .ok (.i2l, 1) := sorry
theorem dL_law_1767 : decode cL_law 1767 = .ok (.lcmp, 1) := sorry
theorem dL_law_1768 : decode cL_law 1768 = .ok (.ifCond .eq 5, 3) := sorry
theorem dL_law_1773 : decode cL_law 1773 = .ok (.goto 501, 3) := sorry
theorem dL_law_1776 : decode cL_law 1776 = .ok (.aload_n 1, 1) := sorry
theorem dL_law_1777 : decode cL_law 1777 = .ok (.aload_n 0, 1) := sorry
theorem dL_law_1778 : decode cL_law 1778 = .ok (.iload 5, 2) := sorry
theorem dL_law_1780 : decode cL_law 1780 = .ok (.iconst 1, 1) := sorry
theorem dL_law_1781 : decode cL_law 1781 = .ok (.iadd, 1) := sorry
theorem dL_law_1782 : decode cL_law 1782 = .ok (.iaload, 1) := sorry
theorem dL_law_1783 : decode cL_law 1783 = .ok (.aload_n 3, 1) := sorry
theorem dL_law_1784 : decode cL_law 1784 = .ok (.invokestatic 220, 3) := sorry
theorem dL_law_1787 : decode cL_law 1787 = .ok (.istore 6, 2) := sorry
theorem dL_law_1789 : decode cL_law 1789 = .ok (.aload_n 2, 1) := sorry
theorem dL_law_1790 : decode cL_law 1790 = .ok (.aload_n 0, 1) := sorry
theorem dL_law_1791 : decode cL_law 1791 = .ok (.iload 5, 2) := sorry
theorem dL_law_1793 : decode cL_law 1793 = .ok (.iconst 1, 1) := sorry
theorem dL_law_1794 : decode cL_law 1794 = .ok (.iadd, 1) := sorry
theorem dL_law_1795 : decode cL_law 1795 = .ok (.iaload, 1) := sorry
theorem dL_law_1796 : decode cL_law 1796 = .ok (.invokevirtual 222, 3) := sorry
theorem dL_law_1799 : decode cL_law 1799 = .ok (.istore 7, 2) := sorry
theorem dL_law_1801 : decode cL_law 1801 = .ok (.aload_n 2, 1) := sorry
theorem dL_law_1802 : decode cL_law 1802 = .ok (.invokevirtual 132, 3) := sorry
theorem dL_law_1805 : decode cL_law 1805 = .ok (.iload 6, 2) := sorry
theorem dL_law_1807 : decode cL_law 1807 = .ok (.if_icmp .eq 5, 3) := sorry
theorem dL_law_1812 : decode cL_law 1812 = .ok (.iload 6, 2) := sorry
theorem dL_law_1814 : decode cL_law 1814 = .ok (.ifCond .ne 15, 3) := sorry
theorem dL_law_1817 : decode cL_law 1817 = .ok (.aload_n 3, 1) := sorry
theorem dL_law_1818 : decode cL_law 1818 = .ok (.iconst 0, 1) := sorry
theorem dL_law_1819 : decode cL_law 1819 = .ok (.laload, 1) := sorry
theorem dL_law_1820 : decode cL_law 1820 = .ok (.iload 7, 2) := sorry
theorem dL_law_1822 : decode cL_law 1822 = .ok (.i2l, 1) := sorry
theorem dL_law_1823 : decode cL_law 1823 = .ok (.lcmp, 1) := sorry
theorem dL_law_1824 : decode cL_law 1824 = .ok (.ifCond .eq 5, 3) := sorry
theorem dL_law_1829 : decode cL_law 1829 = .ok (.goto 445, 3) := sorry
theorem dL_law_1832 : decode cL_law 1832 = .ok (.aload_n 1, 1) := sorry
theorem dL_law_1833 : decode cL_law 1833 = .ok (.aload_n 0, 1) := sorry
theorem dL_law_1834 : decode cL_law 1834 = .ok (.iload 5, 2) := sorry
theorem dL_law_1836 : decode cL_law 1836 = .ok (.iconst 1, 1) := sorry
theorem dL_law_1837 : decode cL_law 1837 = .ok (.iadd, 1) := sorry
theorem dL_law_1838 : decode cL_law 1838 = .ok (.iaload, 1) := sorry
theorem dL_law_1839 : decode cL_law 1839 = .ok (.aload_n 3, 1) := sorry
theorem dL_law_1840 : decode cL_law 1840 = .ok (.invokestatic 223, 3) := sorry
theorem dL_law_1843 : decode cL_law 1843 = .ok (.istore 6, 2) := sorry
theorem dL_law_1845 : decode cL_law 1845 = .ok (.aload_n 2, 1) := sorry
theorem dL_law_1846 : decode cL_law 1846 = .ok (.aload_n 0, 1) := sorry
theorem dL_law_1847 : decode cL_law 1847 = .ok (.iload 5, 2) := sorry
theorem dL_law_1849 : decode cL_law 1849 = .ok (.iconst 1, 1) := sorry
theorem dL_law_1850 : decode cL_law 1850 = .ok (.iadd, 1) := sorry
theorem dL_law_1851 : decode cL_law 1851 = .ok (.iaload, 1) := sorry
theorem dL_law_1852 : decode cL_law 1852 = .ok (.invokevirtual 225, 3) := sorry
theorem dL_law_1855 : decode cL_law 1855 = .ok (.istore 7, 2) := sorry
theorem dL_law_1857 : decode cL_law 1857 = .ok (.aload_n 2, 1) := sorry
theorem dL_law_1858 : decode cL_law 1858 = .ok (.invokevirtual 132, 3) := sorry
theorem dL_law_1861 : decode cL_law 1861 = .ok (.iload 6, 2) := sorry
theorem dL_law_1863 : decode cL_law 1863 = .ok (.if_icmp .eq 5, 3) := sorry
theorem dL_law_1868 : decode cL_law 1868 = .ok (.iload 6, 2) := sorry
theorem dL_law_1870 : decode cL_law 1870 = .ok (.ifCond .ne 15, 3) := sorry
theorem dL_law_1873 : decode cL_law 1873 = .ok (.aload_n 3, 1) := sorry
theorem dL_law_1874 : decode cL_law 1874 = .ok (.iconst 0, 1) := sorry
theorem dL_law_1875 : decode cL_law 1875 = .ok (.laload, 1) := sorry
theorem dL_law_1876 : decode cL_law 1876 = .ok (.iload 7, 2) := sorry
theorem dL_law_1878 : decode cL_law 1878 = .ok (.i2l, 1) := sorry
theorem dL_law_1879 : decode cL_law 1879 = .ok (.lcmp, 1) := sorry
theorem dL_law_1880 : decode cL_law 1880 = .ok (.ifCond .eq 5, 3) := sorry
theorem dL_law_1885 : decode cL_law 1885 = .ok (.goto 389, 3) := sorry
theorem dL_law_1888 : decode cL_law 1888 = .ok (.aload_n 1, 1) := sorry
theorem dL_law_1889 : decode cL_law 1889 = .ok (.aload_n 0, 1) := sorry
theorem dL_law_1890 : decode cL_law 1890 = .ok (.iload 5, 2) := sorry
theorem dL_law_1892 : decode cL_law 1892 = .ok (.iconst 1, 1) := sorry
theorem dL_law_1893 : decode cL_law 1893 = .ok (.iadd, 1) := sorry
theorem dL_law_1894 : decode cL_law 1894 = .ok (.iaload, 1) := sorry
theorem dL_law_1895 : decode cL_law 1895 = .ok (.aload_n 3, 1) := sorry
theorem dL_law_1896 : decode cL_law 1896 = .ok (.invokestatic 226, 3) := sorry
theorem dL_law_1899 : decode cL_law 1899 = .ok (.istore 6, 2) := sorry
theorem dL_law_1901 : decode cL_law 1901 = .ok (.aload_n 2, 1) := sorry
theorem dL_law_1902 : decode cL_law 1902 = .ok (.aload_n 0, 1) := sorry
theorem dL_law_1903 : decode cL_law 1903 = .ok (.iload 5, 2) := sorry
theorem dL_law_1905 : decode cL_law 1905 = .ok (.iconst 1, 1) := sorry
theorem dL_law_1906 : decode cL_law 1906 = .ok (.iadd, 1) := sorry
theorem dL_law_1907 : decode cL_law 1907 = .ok (.iaload, 1) := sorry
theorem dL_law_1908 : decode cL_law 1908 = .ok (.invokevirtual 228, 3) := sorry
theorem dL_law_1911 : decode cL_law 1911 = .ok (.istore 7, 2) := sorry
theorem dL_law_1913 : decode cL_law 1913 = .ok (.aload_n 2, 1) := sorry
theorem dL_law_1914 : decode cL_law 1914 = .ok (.invokevirtual 132, 3) := sorry
theorem dL_law_1917 : decode cL_law 1917 = .ok (.iload 6, 2) := sorry
theorem dL_law_1919 : decode cL_law 1919 = .ok (.if_icmp .eq 5, 3) := sorry
theorem dL_law_1924 : decode cL_law 1924 = .ok (.iload 6, 2) := sorry
theorem dL_law_1926 : decode cL_law 1926 = .ok (.ifCond .ne 15, 3) := sorry
theorem dL_law_1929 : decode cL_law 1929 = .ok (.aload_n 3, 1) := sorry
theorem dL_law_1930 : decode cL_law 1930 = .ok (.iconst 0, 1) := sorry
theorem dL_law_1931 : decode cL_law 1931 = .ok (.laload, 1) := sorry
theorem dL_law_1932 : decode cL_law 1932 = .ok (.iload 7, 2) := sorry
theorem dL_law_1934 : decode cL_law 1934 = .ok (.i2l, 1) := sorry
theorem dL_law_1935 : decode cL_law 1935 = .ok (.lcmp, 1) := sorry
theorem dL_law_1936 : decode cL_law 1936 = .ok (.ifCond .eq 5, 3) := sorry
theorem dL_law_1941 : decode cL_law 1941 = .ok (.goto 333, 3) := sorry
theorem dL_law_1944 : decode cL_law 1944 = .ok (.aload_n 1, 1) := sorry
theorem dL_law_1945 : decode cL_law 1945 = .ok (.aload_n 0, 1) := sorry
theorem dL_law_1946 : decode cL_law 1946 = .ok (.iload 5, 2) := sorry
theorem dL_law_1948 : decode cL_law 1948 = .ok (.iconst 1, 1) := sorry
theorem dL_law_1949 : decode cL_law 1949 = .ok (.iadd, 1) := sorry
theorem dL_law_1950 : decode cL_law 1950 = .ok (.iaload, 1) := sorry
theorem dL_law_1951 : decode cL_law 1951 = .ok (.aload_n 3, 1) := sorry
theorem dL_law_1952 : decode cL_law 1952 = .ok (.invokestatic 229, 3) := sorry
theorem dL_law_1955 : decode cL_law 1955 = .ok (.istore 6, 2) := sorry
theorem dL_law_1957 : decode cL_law 1957 = .ok (.aload_n 2, 1) := sorry
theorem dL_law_1958 : decode cL_law 1958 = .ok (.aload_n 0, 1) := sorry
theorem dL_law_1959 : decode cL_law 1959 = .ok (.iload 5, 2) := sorry
theorem dL_law_1961 : decode cL_law 1961 = .ok (.iconst 1, 1) := sorry
theorem dL_law_1962 : decode cL_law 1962 = .ok (.iadd, 1) := sorry
theorem dL_law_1963 : decode cL_law 1963 = .ok (.iaload, 1) := sorry
theorem dL_law_1964 : decode cL_law 1964 = .ok (.invokevirtual 231, 3) := sorry
theorem dL_law_1967 : decode cL_law 1967 = .ok (.istore 7, 2) := sorry
theorem dL_law_1969 : decode cL_law 1969 = .ok (.aload_n 2, 1) := sorry
theorem dL_law_1970 : decode cL_law 1970 = .ok (.invokevirtual 132, 3) := sorry
theorem dL_law_1973 : decode cL_law 1973 = .ok (.iload 6, 2) := sorry
theorem dL_law_1975 : decode cL_law 1975 = .ok (.if_icmp .eq 5, 3) := sorry
theorem dL_law_1980 : decode cL_law 1980 = .ok (.iload 6, 2) := sorry
theorem dL_law_1982 : decode cL_law 1982 = .ok (.ifCond .ne 15, 3) := sorry
theorem dL_law_1985 : decode cL_law 1985 = .ok (.aload_n 3, 1) := sorry
theorem dL_law_1986 : decode cL_law 1986 = .ok (.iconst 0, 1) := sorry
theorem dL_law_1987 : decode cL_law 1987 = .ok (.laload, 1) := sorry
theorem dL_law_1988 : decode cL_law 1988 = .ok (.iload 7, 2) := sorry
theorem dL_law_1990 : decode cL_law 1990 = .ok (.i2l, 1) := sorry
theorem dL_law_1991 : decode cL_law 1991 = .ok (.lcmp, 1) := sorry
theorem dL_law_1992 : decode cL_law 1992 = .ok (.ifCond .eq 5, 3) := sorry
theorem dL_law_1997 : decode cL_law 1997 = .ok (.goto 277, 3) := sorry
theorem dL_law_2000 : decode cL_law 2000 = .ok (.aload_n 1, 1) := sorry
theorem dL_law_2001 : decode cL_law 2001 = .ok (.invokevirtual 232, 3) := sorry
theorem dL_law_2004 : decode cL_law 2004 = .ok (.aload_n 2, 1) := sorry
theorem dL_law_2005 : decode cL_law 2005 = .ok (.invokevirtual 236, 3) := sorry
theorem dL_law_2008 : decode cL_law 2008 = .ok (.lcmp, 1) := sorry
theorem dL_law_2009 : decode cL_law 2009 = .ok (.ifCond .eq 265, 3) := sorry
theorem dL_law_2014 : decode cL_law 2014 = .ok (.aload_n 1, 1) := sorry
theorem dL_law_2015 : decode cL_law 2015 = .ok (.invokevirtual 237, 3) := sorry
theorem dL_law_2018 : decode cL_law 2018 = .ok (.f2d, 1) := sorry
theorem dL_law_2019 : decode cL_law 2019 = .ok (.dstore 6, 2) := sorry
theorem dL_law_2021 : decode cL_law 2021 = .ok (.aload_n 2, 1) := sorry
theorem dL_law_2022 : decode cL_law 2022 = .ok (.invokevirtual 241, 3) := sorry
theorem dL_law_2025 : decode cL_law 2025 = .ok (.f2d, 1) := sorry
theorem dL_law_2026 : decode cL_law 2026 = .ok (.dstore 8, 2) := sorry
theorem dL_law_2028 : decode cL_law 2028 = .ok (.dload 6, 2) := sorry
theorem dL_law_2030 : decode cL_law 2030 = .ok (.dload 8, 2) := sorry
theorem dL_law_2032 : decode cL_law 2032 = .ok (.dcmp .l, 1) := sorry
theorem dL_law_2033 : decode cL_law 2033 = .ok (.ifCond .eq 21, 3) := sorry
theorem dL_law_2054 : decode cL_law 2054 = .ok (.goto 220, 3) := sorry
theorem dL_law_2057 : decode cL_law 2057 = .ok (.aload_n 1, 1) := sorry
theorem dL_law_2058 : decode cL_law 2058 = .ok (.aload 4, 2) := sorry
theorem dL_law_2060 : decode cL_law 2060 = .ok (.invokestatic 242, 3) := sorry
theorem dL_law_2063 : decode cL_law 2063 = .ok (.istore 6, 2) := sorry
theorem dL_law_2065 : decode cL_law 2065 = .ok (.aload_n 2, 1) := sorry
theorem dL_law_2066 : decode cL_law 2066 = .ok (.invokevirtual 245, 3) := sorry
theorem dL_law_2069 : decode cL_law 2069 = .ok (.dstore 7, 2) := sorry
theorem dL_law_2071 : decode cL_law 2071 = .ok (.aload_n 2, 1) := sorry
theorem dL_law_2072 : decode cL_law 2072 = .ok (.invokevirtual 132, 3) := sorry
theorem dL_law_2075 : decode cL_law 2075 = .ok (.iload 6, 2) := sorry
theorem dL_law_2077 : decode cL_law 2077 = .ok (.if_icmp .eq 5, 3) := sorry
theorem dL_law_2082 : decode cL_law 2082 = .ok (.iload 6, 2) := sorry
theorem dL_law_2084 : decode cL_law 2084 = .ok (.ifCond .ne 35, 3) := sorry
theorem dL_law_2087 : decode cL_law 2087 = .ok (.aload 4, 2) := sorry
theorem dL_law_2089 : decode cL_law 2089 = .ok (.iconst 0, 1) := sorry
theorem dL_law_2090 : decode cL_law 2090 = .ok (.daload, 1) := sorry
theorem dL_law_2091 : decode cL_law 2091 = .ok (.dload 7, 2) := sorry
theorem dL_law_2093 : decode cL_law 2093 = .ok (.dcmp .l, 1) := sorry
theorem dL_law_2094 : decode cL_law 2094 = .ok (.ifCond .eq 25, 3) := sorry
theorem dL_law_2119 : decode cL_law 2119 = .ok (.goto 155, 3) := sorry
theorem dL_law_2122 : decode cL_law 2122 = .ok (.aload_n 1, 1) := sorry
theorem dL_law_2123 : decode cL_law 2123 = .ok (.aload_n 0, 1) := sorry
theorem dL_law_2124 : decode cL_law 2124 = .ok (.iload 5, 2) := sorry
theorem dL_law_2126 : decode cL_law 2126 = .ok (.iconst 1, 1) := sorry
theorem dL_law_2127 : decode cL_law 2127 = .ok (.iadd, 1) := sorry
theorem dL_law_2128 : decode cL_law 2128 = .ok (.iaload, 1) := sorry
theorem dL_law_2129 : decode cL_law 2129 = .ok (.i2c, 1) := sorry
theorem dL_law_2130 : decode cL_law 2130 = .ok (.aload_n 0, 1) := sorry
theorem dL_law_2131 : decode cL_law 2131 = .ok (.iload 5, 2) := sorry
theorem dL_law_2133 : decode cL_law 2133 = .ok (.iconst 2, 1) := sorry
theorem dL_law_2134 : decode cL_law 2134 = .ok (.iadd, 1) := sorry
theorem dL_law_2135 : decode cL_law 2135 = .ok (.iaload, 1) := sorry
theorem dL_law_2136 : decode cL_law 2136 = .ok (.aload_n 0, 1) := sorry
theorem dL_law_2137 : decode cL_law 2137 = .ok (.iload 5, 2) := sorry
theorem dL_law_2139 : decode cL_law 2139 = .ok (.iconst 3, 1) := sorry
theorem dL_law_2140 : decode cL_law 2140 = .ok (.iadd, 1) := sorry
theorem dL_law_2141 : decode cL_law 2141 = .ok (.iaload, 1) := sorry
theorem dL_law_2142 : decode cL_law 2142 = .ok (.aload_n 3, 1) := sorry
theorem dL_law_2143 : decode cL_law 2143 = .ok (.invokestatic 246, 3) := sorry
theorem dL_law_2146 : decode cL_law 2146 = .ok (.istore 6, 2) := sorry
theorem dL_law_2148 : decode cL_law 2148 = .ok (.aload_n 2, 1) := sorry
theorem dL_law_2149 : decode cL_law 2149 = .ok (.aload_n 0, 1) := sorry
theorem dL_law_2150 : decode cL_law 2150 = .ok (.iload 5, 2) := sorry
theorem dL_law_2152 : decode cL_law 2152 = .ok (.iconst 1, 1) := sorry
theorem dL_law_2153 : decode cL_law 2153 = .ok (.iadd, 1) := sorry
theorem dL_law_2154 : decode cL_law 2154 = .ok (.iaload, 1) := sorry
theorem dL_law_2155 : decode cL_law 2155 = .ok (.i2c, 1) := sorry
theorem dL_law_2156 : decode cL_law 2156 = .ok (.aload_n 0, 1) := sorry
theorem dL_law_2157 : decode cL_law 2157 = .ok (.iload 5, 2) := sorry
theorem dL_law_2159 : decode cL_law 2159 = .ok (.iconst 2, 1) := sorry
theorem dL_law_2160 : decode cL_law 2160 = .ok (.iadd, 1) := sorry
theorem dL_law_2161 : decode cL_law 2161 = .ok (.iaload, 1) := sorry
theorem dL_law_2162 : decode cL_law 2162 = .ok (.aload_n 0, 1) := sorry
theorem dL_law_2163 : decode cL_law 2163 = .ok (.iload 5, 2) := sorry
theorem dL_law_2165 : decode cL_law 2165 = .ok (.iconst 3, 1) := sorry
theorem dL_law_2166 : decode cL_law 2166 = .ok (.iadd, 1) := sorry
theorem dL_law_2167 : decode cL_law 2167 = .ok (.iaload, 1) := sorry
theorem dL_law_2168 : decode cL_law 2168 = .ok (.invokevirtual 249, 3) := sorry
theorem dL_law_2171 : decode cL_law 2171 = .ok (.istore 7, 2) := sorry
theorem dL_law_2173 : decode cL_law 2173 = .ok (.aload_n 2, 1) := sorry
theorem dL_law_2174 : decode cL_law 2174 = .ok (.invokevirtual 132, 3) := sorry
theorem dL_law_2177 : decode cL_law 2177 = .ok (.iload 6, 2) := sorry
theorem dL_law_2179 : decode cL_law 2179 = .ok (.if_icmp .eq 5, 3) := sorry
theorem dL_law_2184 : decode cL_law 2184 = .ok (.iload 6, 2) := sorry
theorem dL_law_2186 : decode cL_law 2186 = .ok (.ifCond .ne 15, 3) := sorry
theorem dL_law_2189 : decode cL_law 2189 = .ok (.aload_n 3, 1) := sorry
theorem dL_law_2190 : decode cL_law 2190 = .ok (.iconst 0, 1) := sorry
theorem dL_law_2191 : decode cL_law 2191 = .ok (.laload, 1) := sorry
theorem dL_law_2192 : decode cL_law 2192 = .ok (.iload 7, 2) := sorry
theorem dL_law_2194 : decode cL_law 2194 = .ok (.i2l, 1) := sorry
theorem dL_law_2195 : decode cL_law 2195 = .ok (.lcmp, 1) := sorry
theorem dL_law_2196 : decode cL_law 2196 = .ok (.ifCond .eq 5, 3) := sorry
theorem dL_law_2201 : decode cL_law 2201 = .ok (.goto 73, 3) := sorry
theorem dL_law_2204 : decode cL_law 2204 = .ok (.aload_n 1, 1) := sorry
theorem dL_law_2205 : decode cL_law 2205 = .ok (.invokevirtual 250, 3) := sorry
theorem dL_law_2208 : decode cL_law 2208 = .ok (.aload_n 2, 1) := sorry
theorem dL_law_2209 : decode cL_law 2209 = .ok (.invokevirtual 253, 3) := sorry
theorem dL_law_2212 : decode cL_law 2212 = .ok (.if_icmp .eq 62, 3) := sorry
theorem dL_law_2217 : decode cL_law 2217 = .ok (.aload_n 1, 1) := sorry
theorem dL_law_2218 : decode cL_law 2218 = .ok (.invokevirtual 254, 3) := sorry
theorem dL_law_2221 : decode cL_law 2221 = .ok (.aload_n 2, 1) := sorry
theorem dL_law_2222 : decode cL_law 2222 = .ok (.invokevirtual 257, 3) := sorry
theorem dL_law_2225 : decode cL_law 2225 = .ok (.if_icmp .eq 49, 3) := sorry
theorem dL_law_2230 : decode cL_law 2230 = .ok (.aload_n 1, 1) := sorry
theorem dL_law_2231 : decode cL_law 2231 = .ok (.aload_n 3, 1) := sorry
theorem dL_law_2232 : decode cL_law 2232 = .ok (.invokestatic 258, 3) := sorry
theorem dL_law_2235 : decode cL_law 2235 = .ok (.istore 6, 2) := sorry
theorem dL_law_2237 : decode cL_law 2237 = .ok (.aload_n 2, 1) := sorry
theorem dL_law_2238 : decode cL_law 2238 = .ok (.invokevirtual 260, 3) := sorry
theorem dL_law_2241 : decode cL_law 2241 = .ok (.istore 7, 2) := sorry
theorem dL_law_2243 : decode cL_law 2243 = .ok (.aload_n 2, 1) := sorry
theorem dL_law_2244 : decode cL_law 2244 = .ok (.invokevirtual 132, 3) := sorry
theorem dL_law_2247 : decode cL_law 2247 = .ok (.iload 6, 2) := sorry
theorem dL_law_2249 : decode cL_law 2249 = .ok (.if_icmp .eq 5, 3) := sorry
theorem dL_law_2254 : decode cL_law 2254 = .ok (.iload 6, 2) := sorry
theorem dL_law_2256 : decode cL_law 2256 = .ok (.ifCond .ne 15, 3) := sorry
theorem dL_law_2259 : decode cL_law 2259 = .ok (.aload_n 3, 1) := sorry
theorem dL_law_2260 : decode cL_law 2260 = .ok (.iconst 0, 1) := sorry
theorem dL_law_2261 : decode cL_law 2261 = .ok (.laload, 1) := sorry
theorem dL_law_2262 : decode cL_law 2262 = .ok (.iload 7, 2) := sorry
theorem dL_law_2264 : decode cL_law 2264 = .ok (.i2l, 1) := sorry
theorem dL_law_2265 : decode cL_law 2265 = .ok (.lcmp, 1) := sorry
theorem dL_law_2266 : decode cL_law 2266 = .ok (.ifCond .eq 5, 3) := sorry
theorem dL_law_2271 : decode cL_law 2271 = .ok (.goto 3, 3) := sorry
theorem dL_law_2274 : decode cL_law 2274 = .ok (.iinc 5 6, 3) := sorry
theorem dL_law_2277 : decode cL_law 2277 = .ok (.goto (-2249), 3) := sorry
theorem dL_law_2280 : decode cL_law 2280 = .ok (.iconst 1, 1) := sorry
theorem dL_law_2281 : decode cL_law 2281 = .ok (.ireturn, 1) := sorry
