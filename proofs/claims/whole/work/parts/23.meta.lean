/-! what the tables say, row by row -/
theorem ow0 : ai_own ET 0 = 11 := by decide +kernel
theorem mx0 : ai_mx ET 0 = 3 := by decide +kernel
theorem rt0 : ai_rt ET 0 = none := by decide +kernel
theorem in0 : ai_ini ET 0 = true := by decide +kernel
theorem ow1 : ai_own ET 1 = 7 := by decide +kernel
theorem mx1 : ai_mx ET 1 = 1 := by decide +kernel
theorem rt1 : ai_rt ET 1 = none := by decide +kernel
theorem in1 : ai_ini ET 1 = true := by decide +kernel
theorem ow2 : ai_own ET 2 = 10 := by decide +kernel
theorem mx2 : ai_mx ET 2 = 1 := by decide +kernel
theorem rt2 : ai_rt ET 2 = none := by decide +kernel
theorem in2 : ai_ini ET 2 = true := by decide +kernel
theorem ow3 : ai_own ET 3 = 1 := by decide +kernel
theorem mx3 : ai_mx ET 3 = 1 := by decide +kernel
theorem rt3 : ai_rt ET 3 = none := by decide +kernel
theorem in3 : ai_ini ET 3 = true := by decide +kernel
theorem ow4 : ai_own ET 4 = 6 := by decide +kernel
theorem mx4 : ai_mx ET 4 = 2 := by decide +kernel
theorem rt4 : ai_rt ET 4 = none := by decide +kernel
theorem in4 : ai_ini ET 4 = true := by decide +kernel
theorem ow5 : ai_own ET 5 = 8 := by decide +kernel
theorem mx5 : ai_mx ET 5 = 1 := by decide +kernel
theorem rt5 : ai_rt ET 5 = none := by decide +kernel
theorem in5 : ai_ini ET 5 = true := by decide +kernel
theorem ow6 : ai_own ET 6 = 3 := by decide +kernel
theorem mx6 : ai_mx ET 6 = 2 := by decide +kernel
theorem rt6 : ai_rt ET 6 = none := by decide +kernel
theorem in6 : ai_ini ET 6 = true := by decide +kernel
theorem ow7 : ai_own ET 7 = 0 := by decide +kernel
theorem mx7 : ai_mx ET 7 = 1 := by decide +kernel
theorem rt7 : ai_rt ET 7 = none := by decide +kernel
theorem in7 : ai_ini ET 7 = true := by decide +kernel
theorem ow8 : ai_own ET 8 = 2 := by decide +kernel
theorem mx8 : ai_mx ET 8 = 1 := by decide +kernel
theorem rt8 : ai_rt ET 8 = none := by decide +kernel
theorem in8 : ai_ini ET 8 = true := by decide +kernel
theorem ow9 : ai_own ET 9 = 4 := by decide +kernel
theorem mx9 : ai_mx ET 9 = 1 := by decide +kernel
theorem rt9 : ai_rt ET 9 = none := by decide +kernel
theorem in9 : ai_ini ET 9 = true := by decide +kernel
theorem ow10 : ai_own ET 10 = 9 := by decide +kernel
theorem mx10 : ai_mx ET 10 = 1 := by decide +kernel
theorem rt10 : ai_rt ET 10 = none := by decide +kernel
theorem in10 : ai_ini ET 10 = true := by decide +kernel
theorem ow11 : ai_own ET 11 = 5 := by decide +kernel
theorem mx11 : ai_mx ET 11 = 3 := by decide +kernel
theorem rt11 : ai_rt ET 11 = none := by decide +kernel
theorem in11 : ai_ini ET 11 = true := by decide +kernel
theorem ow12 : ai_own ET 12 = 11 := by decide +kernel
theorem mx12 : ai_mx ET 12 = 6 := by decide +kernel
theorem rt12 : ai_rt ET 12 = some .int := by decide +kernel
theorem in12 : ai_ini ET 12 = false := by decide +kernel
theorem ow13 : ai_own ET 13 = 11 := by decide +kernel
theorem mx13 : ai_mx ET 13 = 3 := by decide +kernel
theorem rt13 : ai_rt ET 13 = none := by decide +kernel
theorem in13 : ai_ini ET 13 = false := by decide +kernel
theorem ow14 : ai_own ET 14 = 11 := by decide +kernel
theorem mx14 : ai_mx ET 14 = 2 := by decide +kernel
theorem rt14 : ai_rt ET 14 = some .boolean := by decide +kernel
theorem in14 : ai_ini ET 14 = false := by decide +kernel
theorem ow15 : ai_own ET 15 = 11 := by decide +kernel
theorem mx15 : ai_mx ET 15 = 2 := by decide +kernel
theorem rt15 : ai_rt ET 15 = some .int := by decide +kernel
theorem in15 : ai_ini ET 15 = false := by decide +kernel
theorem ow16 : ai_own ET 16 = 11 := by decide +kernel
theorem mx16 : ai_mx ET 16 = 2 := by decide +kernel
theorem rt16 : ai_rt ET 16 = none := by decide +kernel
theorem in16 : ai_ini ET 16 = false := by decide +kernel
theorem ow17 : ai_own ET 17 = 7 := by decide +kernel
theorem mx17 : ai_mx ET 17 = 4 := by decide +kernel
theorem rt17 : ai_rt ET 17 = none := by decide +kernel
theorem in17 : ai_ini ET 17 = false := by decide +kernel
theorem ow18 : ai_own ET 18 = 7 := by decide +kernel
theorem mx18 : ai_mx ET 18 = 2 := by decide +kernel
theorem rt18 : ai_rt ET 18 = none := by decide +kernel
theorem in18 : ai_ini ET 18 = false := by decide +kernel
theorem ow19 : ai_own ET 19 = 7 := by decide +kernel
theorem mx19 : ai_mx ET 19 = 3 := by decide +kernel
theorem rt19 : ai_rt ET 19 = some .int := by decide +kernel
theorem in19 : ai_ini ET 19 = false := by decide +kernel
theorem ow20 : ai_own ET 20 = 7 := by decide +kernel
theorem mx20 : ai_mx ET 20 = 1 := by decide +kernel
theorem rt20 : ai_rt ET 20 = none := by decide +kernel
theorem in20 : ai_ini ET 20 = false := by decide +kernel
theorem ow21 : ai_own ET 21 = 7 := by decide +kernel
theorem mx21 : ai_mx ET 21 = 1 := by decide +kernel
theorem rt21 : ai_rt ET 21 = some .boolean := by decide +kernel
theorem in21 : ai_ini ET 21 = false := by decide +kernel
theorem ow22 : ai_own ET 22 = 7 := by decide +kernel
theorem mx22 : ai_mx ET 22 = 1 := by decide +kernel
theorem rt22 : ai_rt ET 22 = some .boolean := by decide +kernel
theorem in22 : ai_ini ET 22 = false := by decide +kernel
theorem ow23 : ai_own ET 23 = 7 := by decide +kernel
theorem mx23 : ai_mx ET 23 = 8 := by decide +kernel
theorem rt23 : ai_rt ET 23 = none := by decide +kernel
theorem in23 : ai_ini ET 23 = false := by decide +kernel
theorem ow24 : ai_own ET 24 = 7 := by decide +kernel
theorem mx24 : ai_mx ET 24 = 8 := by decide +kernel
theorem rt24 : ai_rt ET 24 = some .int := by decide +kernel
theorem in24 : ai_ini ET 24 = false := by decide +kernel
theorem ow25 : ai_own ET 25 = 7 := by decide +kernel
theorem mx25 : ai_mx ET 25 = 1 := by decide +kernel
theorem rt25 : ai_rt ET 25 = some .boolean := by decide +kernel
theorem in25 : ai_ini ET 25 = false := by decide +kernel
theorem ow26 : ai_own ET 26 = 6 := by decide +kernel
theorem mx26 : ai_mx ET 26 = 1 := by decide +kernel
theorem rt26 : ai_rt ET 26 = none := by decide +kernel
theorem in26 : ai_ini ET 26 = false := by decide +kernel
theorem ow27 : ai_own ET 27 = 1 := by decide +kernel
theorem mx27 : ai_mx ET 27 = 1 := by decide +kernel
theorem rt27 : ai_rt ET 27 = none := by decide +kernel
theorem in27 : ai_ini ET 27 = false := by decide +kernel
theorem ow28 : ai_own ET 28 = 3 := by decide +kernel
theorem mx28 : ai_mx ET 28 = 2 := by decide +kernel
theorem rt28 : ai_rt ET 28 = none := by decide +kernel
theorem in28 : ai_ini ET 28 = false := by decide +kernel
theorem ow29 : ai_own ET 29 = 8 := by decide +kernel
theorem mx29 : ai_mx ET 29 = 1 := by decide +kernel
theorem rt29 : ai_rt ET 29 = none := by decide +kernel
theorem in29 : ai_ini ET 29 = false := by decide +kernel
theorem ow30 : ai_own ET 30 = 10 := by decide +kernel
theorem mx30 : ai_mx ET 30 = 4 := by decide +kernel
theorem rt30 : ai_rt ET 30 = some .int := by decide +kernel
theorem in30 : ai_ini ET 30 = false := by decide +kernel
theorem ow31 : ai_own ET 31 = 10 := by decide +kernel
theorem mx31 : ai_mx ET 31 = 4 := by decide +kernel
theorem rt31 : ai_rt ET 31 = some .boolean := by decide +kernel
theorem in31 : ai_ini ET 31 = false := by decide +kernel
theorem ow32 : ai_own ET 32 = 10 := by decide +kernel
theorem mx32 : ai_mx ET 32 = 9 := by decide +kernel
theorem rt32 : ai_rt ET 32 = some .boolean := by decide +kernel
theorem in32 : ai_ini ET 32 = false := by decide +kernel
theorem ow33 : ai_own ET 33 = 7 := by decide +kernel
theorem mx33 : ai_mx ET 33 = 2 := by decide +kernel
theorem rt33 : ai_rt ET 33 = some .boolean := by decide +kernel
theorem in33 : ai_ini ET 33 = false := by decide +kernel
theorem ow34 : ai_own ET 34 = 10 := by decide +kernel
theorem mx34 : ai_mx ET 34 = 2 := by decide +kernel
theorem rt34 : ai_rt ET 34 = some .boolean := by decide +kernel
theorem in34 : ai_ini ET 34 = false := by decide +kernel
theorem ow35 : ai_own ET 35 = 7 := by decide +kernel
theorem mx35 : ai_mx ET 35 = 1 := by decide +kernel
theorem rt35 : ai_rt ET 35 = some .boolean := by decide +kernel
theorem in35 : ai_ini ET 35 = false := by decide +kernel
theorem ow36 : ai_own ET 36 = 1 := by decide +kernel
theorem mx36 : ai_mx ET 36 = 4 := by decide +kernel
theorem rt36 : ai_rt ET 36 = some .int := by decide +kernel
theorem in36 : ai_ini ET 36 = false := by decide +kernel
theorem ow37 : ai_own ET 37 = 1 := by decide +kernel
theorem mx37 : ai_mx ET 37 = 4 := by decide +kernel
theorem rt37 : ai_rt ET 37 = some .int := by decide +kernel
theorem in37 : ai_ini ET 37 = false := by decide +kernel
theorem ow38 : ai_own ET 38 = 7 := by decide +kernel
theorem mx38 : ai_mx ET 38 = 4 := by decide +kernel
theorem rt38 : ai_rt ET 38 = some .int := by decide +kernel
theorem in38 : ai_ini ET 38 = false := by decide +kernel
theorem ow39 : ai_own ET 39 = 7 := by decide +kernel
theorem mx39 : ai_mx ET 39 = 2 := by decide +kernel
theorem rt39 : ai_rt ET 39 = some .int := by decide +kernel
theorem in39 : ai_ini ET 39 = false := by decide +kernel
theorem ow40 : ai_own ET 40 = 10 := by decide +kernel
theorem mx40 : ai_mx ET 40 = 6 := by decide +kernel
theorem rt40 : ai_rt ET 40 = some .boolean := by decide +kernel
theorem in40 : ai_ini ET 40 = false := by decide +kernel
theorem ow41 : ai_own ET 41 = 7 := by decide +kernel
theorem mx41 : ai_mx ET 41 = 3 := by decide +kernel
theorem rt41 : ai_rt ET 41 = some .int := by decide +kernel
theorem in41 : ai_ini ET 41 = false := by decide +kernel
theorem ow42 : ai_own ET 42 = 7 := by decide +kernel
theorem mx42 : ai_mx ET 42 = 3 := by decide +kernel
theorem rt42 : ai_rt ET 42 = some .int := by decide +kernel
theorem in42 : ai_ini ET 42 = false := by decide +kernel
theorem ow43 : ai_own ET 43 = 3 := by decide +kernel
theorem mx43 : ai_mx ET 43 = 3 := by decide +kernel
theorem rt43 : ai_rt ET 43 = some .int := by decide +kernel
theorem in43 : ai_ini ET 43 = false := by decide +kernel
theorem ow44 : ai_own ET 44 = 10 := by decide +kernel
theorem mx44 : ai_mx ET 44 = 9 := by decide +kernel
theorem rt44 : ai_rt ET 44 = some .boolean := by decide +kernel
theorem in44 : ai_ini ET 44 = false := by decide +kernel
theorem ow45 : ai_own ET 45 = 10 := by decide +kernel
theorem mx45 : ai_mx ET 45 = 3 := by decide +kernel
theorem rt45 : ai_rt ET 45 = some .boolean := by decide +kernel
theorem in45 : ai_ini ET 45 = false := by decide +kernel
theorem ow46 : ai_own ET 46 = 10 := by decide +kernel
theorem mx46 : ai_mx ET 46 = 4 := by decide +kernel
theorem rt46 : ai_rt ET 46 = some .int := by decide +kernel
theorem in46 : ai_ini ET 46 = false := by decide +kernel
theorem ow47 : ai_own ET 47 = 10 := by decide +kernel
theorem mx47 : ai_mx ET 47 = 3 := by decide +kernel
theorem rt47 : ai_rt ET 47 = some .boolean := by decide +kernel
theorem in47 : ai_ini ET 47 = false := by decide +kernel
theorem ow48 : ai_own ET 48 = 10 := by decide +kernel
theorem mx48 : ai_mx ET 48 = 4 := by decide +kernel
theorem rt48 : ai_rt ET 48 = some .boolean := by decide +kernel
theorem in48 : ai_ini ET 48 = false := by decide +kernel
theorem ow49 : ai_own ET 49 = 10 := by decide +kernel
theorem mx49 : ai_mx ET 49 = 4 := by decide +kernel
theorem rt49 : ai_rt ET 49 = some .boolean := by decide +kernel
theorem in49 : ai_ini ET 49 = false := by decide +kernel
theorem ow50 : ai_own ET 50 = 7 := by decide +kernel
theorem mx50 : ai_mx ET 50 = 2 := by decide +kernel
theorem rt50 : ai_rt ET 50 = some .boolean := by decide +kernel
theorem in50 : ai_ini ET 50 = false := by decide +kernel
theorem ow51 : ai_own ET 51 = 6 := by decide +kernel
theorem mx51 : ai_mx ET 51 = 2 := by decide +kernel
theorem rt51 : ai_rt ET 51 = none := by decide +kernel
theorem in51 : ai_ini ET 51 = false := by decide +kernel
theorem ow52 : ai_own ET 52 = 1 := by decide +kernel
theorem mx52 : ai_mx ET 52 = 2 := by decide +kernel
theorem rt52 : ai_rt ET 52 = none := by decide +kernel
theorem in52 : ai_ini ET 52 = false := by decide +kernel
theorem ow53 : ai_own ET 53 = 3 := by decide +kernel
theorem mx53 : ai_mx ET 53 = 2 := by decide +kernel
theorem rt53 : ai_rt ET 53 = none := by decide +kernel
theorem in53 : ai_ini ET 53 = false := by decide +kernel
theorem ow54 : ai_own ET 54 = 8 := by decide +kernel
theorem mx54 : ai_mx ET 54 = 2 := by decide +kernel
theorem rt54 : ai_rt ET 54 = none := by decide +kernel
theorem in54 : ai_ini ET 54 = false := by decide +kernel
theorem ow55 : ai_own ET 55 = 5 := by decide +kernel
theorem mx55 : ai_mx ET 55 = 1 := by decide +kernel
theorem rt55 : ai_rt ET 55 = none := by decide +kernel
theorem in55 : ai_ini ET 55 = false := by decide +kernel
theorem ow56 : ai_own ET 56 = 11 := by decide +kernel
theorem mx56 : ai_mx ET 56 = 1 := by decide +kernel
theorem rt56 : ai_rt ET 56 = some .int := by decide +kernel
theorem in56 : ai_ini ET 56 = false := by decide +kernel
theorem ow57 : ai_own ET 57 = 11 := by decide +kernel
theorem mx57 : ai_mx ET 57 = 3 := by decide +kernel
theorem rt57 : ai_rt ET 57 = some .int := by decide +kernel
theorem in57 : ai_ini ET 57 = false := by decide +kernel
theorem ow58 : ai_own ET 58 = 11 := by decide +kernel
theorem mx58 : ai_mx ET 58 = 3 := by decide +kernel
theorem rt58 : ai_rt ET 58 = some .boolean := by decide +kernel
theorem in58 : ai_ini ET 58 = false := by decide +kernel
theorem ow59 : ai_own ET 59 = 1 := by decide +kernel
theorem mx59 : ai_mx ET 59 = 2 := by decide +kernel
theorem rt59 : ai_rt ET 59 = some .boolean := by decide +kernel
theorem in59 : ai_ini ET 59 = false := by decide +kernel
theorem ow60 : ai_own ET 60 = 11 := by decide +kernel
theorem mx60 : ai_mx ET 60 = 3 := by decide +kernel
theorem rt60 : ai_rt ET 60 = some .int := by decide +kernel
theorem in60 : ai_ini ET 60 = false := by decide +kernel
theorem ow61 : ai_own ET 61 = 3 := by decide +kernel
theorem mx61 : ai_mx ET 61 = 3 := by decide +kernel
theorem rt61 : ai_rt ET 61 = some .int := by decide +kernel
theorem in61 : ai_ini ET 61 = false := by decide +kernel
theorem ow62 : ai_own ET 62 = 3 := by decide +kernel
theorem mx62 : ai_mx ET 62 = 3 := by decide +kernel
theorem rt62 : ai_rt ET 62 = some .int := by decide +kernel
theorem in62 : ai_ini ET 62 = false := by decide +kernel
theorem ow63 : ai_own ET 63 = 3 := by decide +kernel
theorem mx63 : ai_mx ET 63 = 4 := by decide +kernel
theorem rt63 : ai_rt ET 63 = some .int := by decide +kernel
theorem in63 : ai_ini ET 63 = false := by decide +kernel
theorem ow64 : ai_own ET 64 = 14 := by decide +kernel
theorem mx64 : ai_mx ET 64 = 1 := by decide +kernel
theorem rt64 : ai_rt ET 64 = some .int := by decide +kernel
theorem in64 : ai_ini ET 64 = false := by decide +kernel
theorem ow65 : ai_own ET 65 = 3 := by decide +kernel
theorem mx65 : ai_mx ET 65 = 3 := by decide +kernel
theorem rt65 : ai_rt ET 65 = some .int := by decide +kernel
theorem in65 : ai_ini ET 65 = false := by decide +kernel
theorem ow66 : ai_own ET 66 = 11 := by decide +kernel
theorem mx66 : ai_mx ET 66 = 4 := by decide +kernel
theorem rt66 : ai_rt ET 66 = some .int := by decide +kernel
theorem in66 : ai_ini ET 66 = false := by decide +kernel
theorem ow67 : ai_own ET 67 = 11 := by decide +kernel
theorem mx67 : ai_mx ET 67 = 1 := by decide +kernel
theorem rt67 : ai_rt ET 67 = some .boolean := by decide +kernel
theorem in67 : ai_ini ET 67 = false := by decide +kernel
theorem ow68 : ai_own ET 68 = 3 := by decide +kernel
theorem mx68 : ai_mx ET 68 = 4 := by decide +kernel
theorem rt68 : ai_rt ET 68 = some .int := by decide +kernel
theorem in68 : ai_ini ET 68 = false := by decide +kernel
theorem ow69 : ai_own ET 69 = 1 := by decide +kernel
theorem mx69 : ai_mx ET 69 = 2 := by decide +kernel
theorem rt69 : ai_rt ET 69 = some .boolean := by decide +kernel
theorem in69 : ai_ini ET 69 = false := by decide +kernel
theorem ow70 : ai_own ET 70 = 11 := by decide +kernel
theorem mx70 : ai_mx ET 70 = 5 := by decide +kernel
theorem rt70 : ai_rt ET 70 = some .int := by decide +kernel
theorem in70 : ai_ini ET 70 = false := by decide +kernel
theorem ow71 : ai_own ET 71 = 5 := by decide +kernel
theorem mx71 : ai_mx ET 71 = 2 := by decide +kernel
theorem rt71 : ai_rt ET 71 = none := by decide +kernel
theorem in71 : ai_ini ET 71 = false := by decide +kernel
theorem ow72 : ai_own ET 72 = 3 := by decide +kernel
theorem mx72 : ai_mx ET 72 = 4 := by decide +kernel
theorem rt72 : ai_rt ET 72 = none := by decide +kernel
theorem in72 : ai_ini ET 72 = false := by decide +kernel
theorem ow73 : ai_own ET 73 = 1 := by decide +kernel
theorem mx73 : ai_mx ET 73 = 2 := by decide +kernel
theorem rt73 : ai_rt ET 73 = some .boolean := by decide +kernel
theorem in73 : ai_ini ET 73 = false := by decide +kernel
theorem ow74 : ai_own ET 74 = 1 := by decide +kernel
theorem mx74 : ai_mx ET 74 = 3 := by decide +kernel
theorem rt74 : ai_rt ET 74 = some .int := by decide +kernel
theorem in74 : ai_ini ET 74 = false := by decide +kernel
theorem ow75 : ai_own ET 75 = 3 := by decide +kernel
theorem mx75 : ai_mx ET 75 = 5 := by decide +kernel
theorem rt75 : ai_rt ET 75 = none := by decide +kernel
theorem in75 : ai_ini ET 75 = false := by decide +kernel
theorem ow76 : ai_own ET 76 = 11 := by decide +kernel
theorem mx76 : ai_mx ET 76 = 5 := by decide +kernel
theorem rt76 : ai_rt ET 76 = some .int := by decide +kernel
theorem in76 : ai_ini ET 76 = false := by decide +kernel
theorem ow77 : ai_own ET 77 = 1 := by decide +kernel
theorem mx77 : ai_mx ET 77 = 2 := by decide +kernel
theorem rt77 : ai_rt ET 77 = some .boolean := by decide +kernel
theorem in77 : ai_ini ET 77 = false := by decide +kernel
theorem ow78 : ai_own ET 78 = 3 := by decide +kernel
theorem mx78 : ai_mx ET 78 = 4 := by decide +kernel
theorem rt78 : ai_rt ET 78 = some .int := by decide +kernel
theorem in78 : ai_ini ET 78 = false := by decide +kernel
theorem ow79 : ai_own ET 79 = 3 := by decide +kernel
theorem mx79 : ai_mx ET 79 = 3 := by decide +kernel
theorem rt79 : ai_rt ET 79 = some .boolean := by decide +kernel
theorem in79 : ai_ini ET 79 = false := by decide +kernel
theorem ow80 : ai_own ET 80 = 3 := by decide +kernel
theorem mx80 : ai_mx ET 80 = 5 := by decide +kernel
theorem rt80 : ai_rt ET 80 = some .int := by decide +kernel
theorem in80 : ai_ini ET 80 = false := by decide +kernel
theorem ow81 : ai_own ET 81 = 3 := by decide +kernel
theorem mx81 : ai_mx ET 81 = 2 := by decide +kernel
theorem rt81 : ai_rt ET 81 = some .int := by decide +kernel
theorem in81 : ai_ini ET 81 = false := by decide +kernel
theorem ow82 : ai_own ET 82 = 3 := by decide +kernel
theorem mx82 : ai_mx ET 82 = 3 := by decide +kernel
theorem rt82 : ai_rt ET 82 = some .int := by decide +kernel
theorem in82 : ai_ini ET 82 = false := by decide +kernel
theorem ow83 : ai_own ET 83 = 11 := by decide +kernel
theorem mx83 : ai_mx ET 83 = 2 := by decide +kernel
theorem rt83 : ai_rt ET 83 = some .int := by decide +kernel
theorem in83 : ai_ini ET 83 = false := by decide +kernel
theorem ow84 : ai_own ET 84 = 3 := by decide +kernel
theorem mx84 : ai_mx ET 84 = 2 := by decide +kernel
theorem rt84 : ai_rt ET 84 = some .boolean := by decide +kernel
theorem in84 : ai_ini ET 84 = false := by decide +kernel
theorem ow85 : ai_own ET 85 = 3 := by decide +kernel
theorem mx85 : ai_mx ET 85 = 3 := by decide +kernel
theorem rt85 : ai_rt ET 85 = none := by decide +kernel
theorem in85 : ai_ini ET 85 = false := by decide +kernel
theorem ow86 : ai_own ET 86 = 3 := by decide +kernel
theorem mx86 : ai_mx ET 86 = 2 := by decide +kernel
theorem rt86 : ai_rt ET 86 = none := by decide +kernel
theorem in86 : ai_ini ET 86 = false := by decide +kernel
theorem ow87 : ai_own ET 87 = 3 := by decide +kernel
theorem mx87 : ai_mx ET 87 = 2 := by decide +kernel
theorem rt87 : ai_rt ET 87 = some .boolean := by decide +kernel
theorem in87 : ai_ini ET 87 = false := by decide +kernel
theorem ow88 : ai_own ET 88 = 11 := by decide +kernel
theorem mx88 : ai_mx ET 88 = 2 := by decide +kernel
theorem rt88 : ai_rt ET 88 = some .int := by decide +kernel
theorem in88 : ai_ini ET 88 = false := by decide +kernel
theorem ow89 : ai_own ET 89 = 3 := by decide +kernel
theorem mx89 : ai_mx ET 89 = 3 := by decide +kernel
theorem rt89 : ai_rt ET 89 = some .int := by decide +kernel
theorem in89 : ai_ini ET 89 = false := by decide +kernel
theorem ow90 : ai_own ET 90 = 3 := by decide +kernel
theorem mx90 : ai_mx ET 90 = 3 := by decide +kernel
theorem rt90 : ai_rt ET 90 = some .int := by decide +kernel
theorem in90 : ai_ini ET 90 = false := by decide +kernel
theorem ow91 : ai_own ET 91 = 3 := by decide +kernel
theorem mx91 : ai_mx ET 91 = 6 := by decide +kernel
theorem rt91 : ai_rt ET 91 = some .boolean := by decide +kernel
theorem in91 : ai_ini ET 91 = false := by decide +kernel
theorem ow92 : ai_own ET 92 = 3 := by decide +kernel
theorem mx92 : ai_mx ET 92 = 5 := by decide +kernel
theorem rt92 : ai_rt ET 92 = none := by decide +kernel
theorem in92 : ai_ini ET 92 = false := by decide +kernel
theorem ow93 : ai_own ET 93 = 11 := by decide +kernel
theorem mx93 : ai_mx ET 93 = 1 := by decide +kernel
theorem rt93 : ai_rt ET 93 = some .int := by decide +kernel
theorem in93 : ai_ini ET 93 = false := by decide +kernel
theorem ow94 : ai_own ET 94 = 11 := by decide +kernel
theorem mx94 : ai_mx ET 94 = 1 := by decide +kernel
theorem rt94 : ai_rt ET 94 = some .int := by decide +kernel
theorem in94 : ai_ini ET 94 = false := by decide +kernel
theorem ow95 : ai_own ET 95 = 5 := by decide +kernel
theorem mx95 : ai_mx ET 95 = 2 := by decide +kernel
theorem rt95 : ai_rt ET 95 = some .int := by decide +kernel
theorem in95 : ai_ini ET 95 = false := by decide +kernel
theorem ow96 : ai_own ET 96 = 11 := by decide +kernel
theorem mx96 : ai_mx ET 96 = 1 := by decide +kernel
theorem rt96 : ai_rt ET 96 = some .int := by decide +kernel
theorem in96 : ai_ini ET 96 = false := by decide +kernel
theorem ow97 : ai_own ET 97 = 11 := by decide +kernel
theorem mx97 : ai_mx ET 97 = 2 := by decide +kernel
theorem rt97 : ai_rt ET 97 = some .int := by decide +kernel
theorem in97 : ai_ini ET 97 = false := by decide +kernel
theorem ow98 : ai_own ET 98 = 11 := by decide +kernel
theorem mx98 : ai_mx ET 98 = 2 := by decide +kernel
theorem rt98 : ai_rt ET 98 = some .int := by decide +kernel
theorem in98 : ai_ini ET 98 = false := by decide +kernel
theorem ow99 : ai_own ET 99 = 11 := by decide +kernel
theorem mx99 : ai_mx ET 99 = 1 := by decide +kernel
theorem rt99 : ai_rt ET 99 = some .int := by decide +kernel
theorem in99 : ai_ini ET 99 = false := by decide +kernel
theorem ow100 : ai_own ET 100 = 2 := by decide +kernel
theorem mx100 : ai_mx ET 100 = 3 := by decide +kernel
theorem rt100 : ai_rt ET 100 = some .int := by decide +kernel
theorem in100 : ai_ini ET 100 = false := by decide +kernel
theorem ow101 : ai_own ET 101 = 2 := by decide +kernel
theorem mx101 : ai_mx ET 101 = 6 := by decide +kernel
theorem rt101 : ai_rt ET 101 = none := by decide +kernel
theorem in101 : ai_ini ET 101 = false := by decide +kernel
theorem ow102 : ai_own ET 102 = 2 := by decide +kernel
theorem mx102 : ai_mx ET 102 = 2 := by decide +kernel
theorem rt102 : ai_rt ET 102 = none := by decide +kernel
theorem in102 : ai_ini ET 102 = false := by decide +kernel
theorem ow103 : ai_own ET 103 = 2 := by decide +kernel
theorem mx103 : ai_mx ET 103 = 6 := by decide +kernel
theorem rt103 : ai_rt ET 103 = none := by decide +kernel
theorem in103 : ai_ini ET 103 = false := by decide +kernel
theorem ow104 : ai_own ET 104 = 11 := by decide +kernel
theorem mx104 : ai_mx ET 104 = 2 := by decide +kernel
theorem rt104 : ai_rt ET 104 = some .int := by decide +kernel
theorem in104 : ai_ini ET 104 = false := by decide +kernel
theorem ow105 : ai_own ET 105 = 11 := by decide +kernel
theorem mx105 : ai_mx ET 105 = 2 := by decide +kernel
theorem rt105 : ai_rt ET 105 = some .int := by decide +kernel
theorem in105 : ai_ini ET 105 = false := by decide +kernel
theorem ow106 : ai_own ET 106 = 4 := by decide +kernel
theorem mx106 : ai_mx ET 106 = 4 := by decide +kernel
theorem rt106 : ai_rt ET 106 = some .int := by decide +kernel
theorem in106 : ai_ini ET 106 = false := by decide +kernel
theorem ow107 : ai_own ET 107 = 4 := by decide +kernel
theorem mx107 : ai_mx ET 107 = 4 := by decide +kernel
theorem rt107 : ai_rt ET 107 = none := by decide +kernel
theorem in107 : ai_ini ET 107 = false := by decide +kernel
theorem ow108 : ai_own ET 108 = 4 := by decide +kernel
theorem mx108 : ai_mx ET 108 = 6 := by decide +kernel
theorem rt108 : ai_rt ET 108 = some .int := by decide +kernel
theorem in108 : ai_ini ET 108 = false := by decide +kernel
theorem ow109 : ai_own ET 109 = 4 := by decide +kernel
theorem mx109 : ai_mx ET 109 = 5 := by decide +kernel
theorem rt109 : ai_rt ET 109 = some .boolean := by decide +kernel
theorem in109 : ai_ini ET 109 = false := by decide +kernel
theorem ow110 : ai_own ET 110 = 11 := by decide +kernel
theorem mx110 : ai_mx ET 110 = 2 := by decide +kernel
theorem rt110 : ai_rt ET 110 = some .int := by decide +kernel
theorem in110 : ai_ini ET 110 = false := by decide +kernel
theorem ow111 : ai_own ET 111 = 11 := by decide +kernel
theorem mx111 : ai_mx ET 111 = 2 := by decide +kernel
theorem rt111 : ai_rt ET 111 = some .int := by decide +kernel
theorem in111 : ai_ini ET 111 = false := by decide +kernel
theorem ow112 : ai_own ET 112 = 11 := by decide +kernel
theorem mx112 : ai_mx ET 112 = 11 := by decide +kernel
theorem rt112 : ai_rt ET 112 = some .int := by decide +kernel
theorem in112 : ai_ini ET 112 = false := by decide +kernel
theorem ow113 : ai_own ET 113 = 11 := by decide +kernel
theorem mx113 : ai_mx ET 113 = 3 := by decide +kernel
theorem rt113 : ai_rt ET 113 = some .boolean := by decide +kernel
theorem in113 : ai_ini ET 113 = false := by decide +kernel
theorem ow114 : ai_own ET 114 = 11 := by decide +kernel
theorem mx114 : ai_mx ET 114 = 5 := by decide +kernel
theorem rt114 : ai_rt ET 114 = some .long := by decide +kernel
theorem in114 : ai_ini ET 114 = false := by decide +kernel
theorem ow115 : ai_own ET 115 = 11 := by decide +kernel
theorem mx115 : ai_mx ET 115 = 7 := by decide +kernel
theorem rt115 : ai_rt ET 115 = some .long := by decide +kernel
theorem in115 : ai_ini ET 115 = false := by decide +kernel
theorem ow116 : ai_own ET 116 = 11 := by decide +kernel
theorem mx116 : ai_mx ET 116 = 7 := by decide +kernel
theorem rt116 : ai_rt ET 116 = some .int := by decide +kernel
theorem in116 : ai_ini ET 116 = false := by decide +kernel
theorem ow117 : ai_own ET 117 = 11 := by decide +kernel
theorem mx117 : ai_mx ET 117 = 5 := by decide +kernel
theorem rt117 : ai_rt ET 117 = some .int := by decide +kernel
theorem in117 : ai_ini ET 117 = false := by decide +kernel
theorem ow118 : ai_own ET 118 = 11 := by decide +kernel
theorem mx118 : ai_mx ET 118 = 3 := by decide +kernel
theorem rt118 : ai_rt ET 118 = some .int := by decide +kernel
theorem in118 : ai_ini ET 118 = false := by decide +kernel
theorem ow119 : ai_own ET 119 = 3 := by decide +kernel
theorem mx119 : ai_mx ET 119 = 6 := by decide +kernel
theorem rt119 : ai_rt ET 119 = some .int := by decide +kernel
theorem in119 : ai_ini ET 119 = false := by decide +kernel
theorem ow120 : ai_own ET 120 = 11 := by decide +kernel
theorem mx120 : ai_mx ET 120 = 6 := by decide +kernel
theorem rt120 : ai_rt ET 120 = some .int := by decide +kernel
theorem in120 : ai_ini ET 120 = false := by decide +kernel
theorem ow121 : ai_own ET 121 = 11 := by decide +kernel
theorem mx121 : ai_mx ET 121 = 3 := by decide +kernel
theorem rt121 : ai_rt ET 121 = some .int := by decide +kernel
theorem in121 : ai_ini ET 121 = false := by decide +kernel
theorem ow122 : ai_own ET 122 = 9 := by decide +kernel
theorem mx122 : ai_mx ET 122 = 4 := by decide +kernel
theorem rt122 : ai_rt ET 122 = some .int := by decide +kernel
theorem in122 : ai_ini ET 122 = false := by decide +kernel
theorem ow123 : ai_own ET 123 = 9 := by decide +kernel
theorem mx123 : ai_mx ET 123 = 5 := by decide +kernel
theorem rt123 : ai_rt ET 123 = none := by decide +kernel
theorem in123 : ai_ini ET 123 = false := by decide +kernel
theorem ow124 : ai_own ET 124 = 9 := by decide +kernel
theorem mx124 : ai_mx ET 124 = 2 := by decide +kernel
theorem rt124 : ai_rt ET 124 = some .boolean := by decide +kernel
theorem in124 : ai_ini ET 124 = false := by decide +kernel
theorem ow125 : ai_own ET 125 = 9 := by decide +kernel
theorem mx125 : ai_mx ET 125 = 2 := by decide +kernel
theorem rt125 : ai_rt ET 125 = none := by decide +kernel
theorem in125 : ai_ini ET 125 = false := by decide +kernel
theorem ow126 : ai_own ET 126 = 9 := by decide +kernel
theorem mx126 : ai_mx ET 126 = 5 := by decide +kernel
theorem rt126 : ai_rt ET 126 = none := by decide +kernel
theorem in126 : ai_ini ET 126 = false := by decide +kernel
theorem ow127 : ai_own ET 127 = 9 := by decide +kernel
theorem mx127 : ai_mx ET 127 = 4 := by decide +kernel
theorem rt127 : ai_rt ET 127 = some .int := by decide +kernel
theorem in127 : ai_ini ET 127 = false := by decide +kernel
theorem ow128 : ai_own ET 128 = 9 := by decide +kernel
theorem mx128 : ai_mx ET 128 = 8 := by decide +kernel
theorem rt128 : ai_rt ET 128 = some .boolean := by decide +kernel
theorem in128 : ai_ini ET 128 = false := by decide +kernel
theorem ow129 : ai_own ET 129 = 9 := by decide +kernel
theorem mx129 : ai_mx ET 129 = 2 := by decide +kernel
theorem rt129 : ai_rt ET 129 = some .int := by decide +kernel
theorem in129 : ai_ini ET 129 = false := by decide +kernel
theorem ow130 : ai_own ET 130 = 9 := by decide +kernel
theorem mx130 : ai_mx ET 130 = 2 := by decide +kernel
theorem rt130 : ai_rt ET 130 = some .int := by decide +kernel
theorem in130 : ai_ini ET 130 = false := by decide +kernel
theorem ow131 : ai_own ET 131 = 9 := by decide +kernel
theorem mx131 : ai_mx ET 131 = 4 := by decide +kernel
theorem rt131 : ai_rt ET 131 = none := by decide +kernel
theorem in131 : ai_ini ET 131 = false := by decide +kernel
theorem ow132 : ai_own ET 132 = 9 := by decide +kernel
theorem mx132 : ai_mx ET 132 = 1 := by decide +kernel
theorem rt132 : ai_rt ET 132 = some .int := by decide +kernel
theorem in132 : ai_ini ET 132 = false := by decide +kernel
theorem ow133 : ai_own ET 133 = 11 := by decide +kernel
theorem mx133 : ai_mx ET 133 = 3 := by decide +kernel
theorem rt133 : ai_rt ET 133 = some .int := by decide +kernel
theorem in133 : ai_ini ET 133 = false := by decide +kernel
theorem ow134 : ai_own ET 134 = 9 := by decide +kernel
theorem mx134 : ai_mx ET 134 = 3 := by decide +kernel
theorem rt134 : ai_rt ET 134 = some .int := by decide +kernel
theorem in134 : ai_ini ET 134 = false := by decide +kernel
theorem ow135 : ai_own ET 135 = 11 := by decide +kernel
theorem mx135 : ai_mx ET 135 = 4 := by decide +kernel
theorem rt135 : ai_rt ET 135 = some .int := by decide +kernel
theorem in135 : ai_ini ET 135 = false := by decide +kernel
theorem ow136 : ai_own ET 136 = 3 := by decide +kernel
theorem mx136 : ai_mx ET 136 = 11 := by decide +kernel
theorem rt136 : ai_rt ET 136 = some .int := by decide +kernel
theorem in136 : ai_ini ET 136 = false := by decide +kernel
theorem ow137 : ai_own ET 137 = 3 := by decide +kernel
theorem mx137 : ai_mx ET 137 = 1 := by decide +kernel
theorem rt137 : ai_rt ET 137 = some .int := by decide +kernel
theorem in137 : ai_ini ET 137 = false := by decide +kernel
theorem ow138 : ai_own ET 138 = 3 := by decide +kernel
theorem mx138 : ai_mx ET 138 = 2 := by decide +kernel
theorem rt138 : ai_rt ET 138 = some .int := by decide +kernel
theorem in138 : ai_ini ET 138 = false := by decide +kernel
theorem ow139 : ai_own ET 139 = 11 := by decide +kernel
theorem mx139 : ai_mx ET 139 = 6 := by decide +kernel
theorem rt139 : ai_rt ET 139 = some .int := by decide +kernel
theorem in139 : ai_ini ET 139 = false := by decide +kernel
theorem ow140 : ai_own ET 140 = 11 := by decide +kernel
theorem mx140 : ai_mx ET 140 = 6 := by decide +kernel
theorem rt140 : ai_rt ET 140 = some .int := by decide +kernel
theorem in140 : ai_ini ET 140 = false := by decide +kernel
theorem ow141 : ai_own ET 141 = 11 := by decide +kernel
theorem mx141 : ai_mx ET 141 = 3 := by decide +kernel
theorem rt141 : ai_rt ET 141 = some .int := by decide +kernel
theorem in141 : ai_ini ET 141 = false := by decide +kernel
theorem ow142 : ai_own ET 142 = 3 := by decide +kernel
theorem mx142 : ai_mx ET 142 = 4 := by decide +kernel
theorem rt142 : ai_rt ET 142 = some .int := by decide +kernel
theorem in142 : ai_ini ET 142 = false := by decide +kernel
theorem ow143 : ai_own ET 143 = 11 := by decide +kernel
theorem mx143 : ai_mx ET 143 = 4 := by decide +kernel
theorem rt143 : ai_rt ET 143 = some .int := by decide +kernel
theorem in143 : ai_ini ET 143 = false := by decide +kernel
theorem ow144 : ai_own ET 144 = 0 := by decide +kernel
theorem mx144 : ai_mx ET 144 = 4 := by decide +kernel
theorem rt144 : ai_rt ET 144 = some .boolean := by decide +kernel
theorem in144 : ai_ini ET 144 = false := by decide +kernel
theorem ow145 : ai_own ET 145 = 0 := by decide +kernel
theorem mx145 : ai_mx ET 145 = 6 := by decide +kernel
theorem rt145 : ai_rt ET 145 = some .boolean := by decide +kernel
theorem in145 : ai_ini ET 145 = false := by decide +kernel
theorem ow146 : ai_own ET 146 = 0 := by decide +kernel
theorem mx146 : ai_mx ET 146 = 5 := by decide +kernel
theorem rt146 : ai_rt ET 146 = some .boolean := by decide +kernel
theorem in146 : ai_ini ET 146 = false := by decide +kernel
theorem ow147 : ai_own ET 147 = 0 := by decide +kernel
theorem mx147 : ai_mx ET 147 = 7 := by decide +kernel
theorem rt147 : ai_rt ET 147 = some .boolean := by decide +kernel
theorem in147 : ai_ini ET 147 = false := by decide +kernel
theorem ow148 : ai_own ET 148 = 7 := by decide +kernel
theorem mx148 : ai_mx ET 148 = 3 := by decide +kernel
theorem rt148 : ai_rt ET 148 = some .int := by decide +kernel
theorem in148 : ai_ini ET 148 = false := by decide +kernel
theorem ow149 : ai_own ET 149 = 0 := by decide +kernel
theorem mx149 : ai_mx ET 149 = 2 := by decide +kernel
theorem rt149 : ai_rt ET 149 = some .int := by decide +kernel
theorem in149 : ai_ini ET 149 = false := by decide +kernel
theorem ow150 : ai_own ET 150 = 0 := by decide +kernel
theorem mx150 : ai_mx ET 150 = 4 := by decide +kernel
theorem rt150 : ai_rt ET 150 = some .int := by decide +kernel
theorem in150 : ai_ini ET 150 = false := by decide +kernel
theorem ow151 : ai_own ET 151 = 0 := by decide +kernel
theorem mx151 : ai_mx ET 151 = 6 := by decide +kernel
theorem rt151 : ai_rt ET 151 = some .int := by decide +kernel
theorem in151 : ai_ini ET 151 = false := by decide +kernel
theorem ow152 : ai_own ET 152 = 0 := by decide +kernel
theorem mx152 : ai_mx ET 152 = 5 := by decide +kernel
theorem rt152 : ai_rt ET 152 = some .int := by decide +kernel
theorem in152 : ai_ini ET 152 = false := by decide +kernel
theorem ow153 : ai_own ET 153 = 0 := by decide +kernel
theorem mx153 : ai_mx ET 153 = 2 := by decide +kernel
theorem rt153 : ai_rt ET 153 = some .int := by decide +kernel
theorem in153 : ai_ini ET 153 = false := by decide +kernel
theorem ow154 : ai_own ET 154 = 11 := by decide +kernel
theorem mx154 : ai_mx ET 154 = 2 := by decide +kernel
theorem rt154 : ai_rt ET 154 = some .int := by decide +kernel
theorem in154 : ai_ini ET 154 = false := by decide +kernel
theorem ow155 : ai_own ET 155 = 11 := by decide +kernel
theorem mx155 : ai_mx ET 155 = 2 := by decide +kernel
theorem rt155 : ai_rt ET 155 = some .int := by decide +kernel
theorem in155 : ai_ini ET 155 = false := by decide +kernel
theorem ow156 : ai_own ET 156 = 8 := by decide +kernel
theorem mx156 : ai_mx ET 156 = 5 := by decide +kernel
theorem rt156 : ai_rt ET 156 = some .boolean := by decide +kernel
theorem in156 : ai_ini ET 156 = false := by decide +kernel
theorem ow157 : ai_own ET 157 = 8 := by decide +kernel
theorem mx157 : ai_mx ET 157 = 5 := by decide +kernel
theorem rt157 : ai_rt ET 157 = some .boolean := by decide +kernel
theorem in157 : ai_ini ET 157 = false := by decide +kernel
theorem ow158 : ai_own ET 158 = 8 := by decide +kernel
theorem mx158 : ai_mx ET 158 = 6 := by decide +kernel
theorem rt158 : ai_rt ET 158 = some .boolean := by decide +kernel
theorem in158 : ai_ini ET 158 = false := by decide +kernel
theorem ow159 : ai_own ET 159 = 8 := by decide +kernel
theorem mx159 : ai_mx ET 159 = 1 := by decide +kernel
theorem rt159 : ai_rt ET 159 = some .boolean := by decide +kernel
theorem in159 : ai_ini ET 159 = false := by decide +kernel
theorem ow160 : ai_own ET 160 = 8 := by decide +kernel
theorem mx160 : ai_mx ET 160 = 1 := by decide +kernel
theorem rt160 : ai_rt ET 160 = some .boolean := by decide +kernel
theorem in160 : ai_ini ET 160 = false := by decide +kernel
theorem ow161 : ai_own ET 161 = 8 := by decide +kernel
theorem mx161 : ai_mx ET 161 = 4 := by decide +kernel
theorem rt161 : ai_rt ET 161 = some .boolean := by decide +kernel
theorem in161 : ai_ini ET 161 = false := by decide +kernel
theorem ow162 : ai_own ET 162 = 8 := by decide +kernel
theorem mx162 : ai_mx ET 162 = 5 := by decide +kernel
theorem rt162 : ai_rt ET 162 = some .boolean := by decide +kernel
theorem in162 : ai_ini ET 162 = false := by decide +kernel
theorem ow163 : ai_own ET 163 = 8 := by decide +kernel
theorem mx163 : ai_mx ET 163 = 5 := by decide +kernel
theorem rt163 : ai_rt ET 163 = some .boolean := by decide +kernel
theorem in163 : ai_ini ET 163 = false := by decide +kernel
theorem ow164 : ai_own ET 164 = 11 := by decide +kernel
theorem mx164 : ai_mx ET 164 = 5 := by decide +kernel
theorem rt164 : ai_rt ET 164 = some .int := by decide +kernel
theorem in164 : ai_ini ET 164 = false := by decide +kernel
theorem ow165 : ai_own ET 165 = 8 := by decide +kernel
theorem mx165 : ai_mx ET 165 = 6 := by decide +kernel
theorem rt165 : ai_rt ET 165 = some .int := by decide +kernel
theorem in165 : ai_ini ET 165 = false := by decide +kernel
theorem ow166 : ai_own ET 166 = 8 := by decide +kernel
theorem mx166 : ai_mx ET 166 = 3 := by decide +kernel
theorem rt166 : ai_rt ET 166 = some .int := by decide +kernel
theorem in166 : ai_ini ET 166 = false := by decide +kernel
theorem ow167 : ai_own ET 167 = 8 := by decide +kernel
theorem mx167 : ai_mx ET 167 = 5 := by decide +kernel
theorem rt167 : ai_rt ET 167 = some .int := by decide +kernel
theorem in167 : ai_ini ET 167 = false := by decide +kernel
theorem ow168 : ai_own ET 168 = 8 := by decide +kernel
theorem mx168 : ai_mx ET 168 = 4 := by decide +kernel
theorem rt168 : ai_rt ET 168 = some .boolean := by decide +kernel
theorem in168 : ai_ini ET 168 = false := by decide +kernel
theorem ow169 : ai_own ET 169 = 8 := by decide +kernel
theorem mx169 : ai_mx ET 169 = 4 := by decide +kernel
theorem rt169 : ai_rt ET 169 = some .boolean := by decide +kernel
theorem in169 : ai_ini ET 169 = false := by decide +kernel
theorem ow170 : ai_own ET 170 = 11 := by decide +kernel
theorem mx170 : ai_mx ET 170 = 2 := by decide +kernel
theorem rt170 : ai_rt ET 170 = some .boolean := by decide +kernel
theorem in170 : ai_ini ET 170 = false := by decide +kernel
theorem ow171 : ai_own ET 171 = 11 := by decide +kernel
theorem mx171 : ai_mx ET 171 = 2 := by decide +kernel
theorem rt171 : ai_rt ET 171 = some .boolean := by decide +kernel
theorem in171 : ai_ini ET 171 = false := by decide +kernel
theorem ow172 : ai_own ET 172 = 11 := by decide +kernel
theorem mx172 : ai_mx ET 172 = 2 := by decide +kernel
theorem rt172 : ai_rt ET 172 = some .int := by decide +kernel
theorem in172 : ai_ini ET 172 = false := by decide +kernel
theorem ow173 : ai_own ET 173 = 11 := by decide +kernel
theorem mx173 : ai_mx ET 173 = 5 := by decide +kernel
theorem rt173 : ai_rt ET 173 = some .int := by decide +kernel
theorem in173 : ai_ini ET 173 = false := by decide +kernel
theorem ow174 : ai_own ET 174 = 11 := by decide +kernel
theorem mx174 : ai_mx ET 174 = 3 := by decide +kernel
theorem rt174 : ai_rt ET 174 = some .int := by decide +kernel
theorem in174 : ai_ini ET 174 = false := by decide +kernel
theorem ow175 : ai_own ET 175 = 11 := by decide +kernel
theorem mx175 : ai_mx ET 175 = 12 := by decide +kernel
theorem rt175 : ai_rt ET 175 = some .long := by decide +kernel
theorem in175 : ai_ini ET 175 = false := by decide +kernel
theorem ow176 : ai_own ET 176 = 11 := by decide +kernel
theorem mx176 : ai_mx ET 176 = 11 := by decide +kernel
theorem rt176 : ai_rt ET 176 = some .long := by decide +kernel
theorem in176 : ai_ini ET 176 = false := by decide +kernel
theorem ow177 : ai_own ET 177 = 12 := by decide +kernel
theorem mx177 : ai_mx ET 177 = 1 := by decide +kernel
theorem rt177 : ai_rt ET 177 = some .int := by decide +kernel
theorem in177 : ai_ini ET 177 = false := by decide +kernel
theorem ow178 : ai_own ET 178 = 12 := by decide +kernel
theorem mx178 : ai_mx ET 178 = 6 := by decide +kernel
theorem rt178 : ai_rt ET 178 = some .int := by decide +kernel
theorem in178 : ai_ini ET 178 = false := by decide +kernel
theorem ow179 : ai_own ET 179 = 12 := by decide +kernel
theorem mx179 : ai_mx ET 179 = 3 := by decide +kernel
theorem rt179 : ai_rt ET 179 = none := by decide +kernel
theorem in179 : ai_ini ET 179 = false := by decide +kernel
theorem ow180 : ai_own ET 180 = 12 := by decide +kernel
theorem mx180 : ai_mx ET 180 = 2 := by decide +kernel
theorem rt180 : ai_rt ET 180 = some .boolean := by decide +kernel
theorem in180 : ai_ini ET 180 = false := by decide +kernel
theorem ow181 : ai_own ET 181 = 12 := by decide +kernel
theorem mx181 : ai_mx ET 181 = 1 := by decide +kernel
theorem rt181 : ai_rt ET 181 = none := by decide +kernel
theorem in181 : ai_ini ET 181 = true := by decide +kernel
theorem ow182 : ai_own ET 182 = 12 := by decide +kernel
theorem mx182 : ai_mx ET 182 = 2 := by decide +kernel
theorem rt182 : ai_rt ET 182 = some .int := by decide +kernel
theorem in182 : ai_ini ET 182 = false := by decide +kernel
theorem ow183 : ai_own ET 183 = 12 := by decide +kernel
theorem mx183 : ai_mx ET 183 = 2 := by decide +kernel
theorem rt183 : ai_rt ET 183 = none := by decide +kernel
theorem in183 : ai_ini ET 183 = false := by decide +kernel
theorem ow184 : ai_own ET 184 = 12 := by decide +kernel
theorem mx184 : ai_mx ET 184 = 4 := by decide +kernel
theorem rt184 : ai_rt ET 184 = none := by decide +kernel
theorem in184 : ai_ini ET 184 = false := by decide +kernel
theorem ow185 : ai_own ET 185 = 12 := by decide +kernel
theorem mx185 : ai_mx ET 185 = 1 := by decide +kernel
theorem rt185 : ai_rt ET 185 = some .int := by decide +kernel
theorem in185 : ai_ini ET 185 = false := by decide +kernel
theorem ow186 : ai_own ET 186 = 12 := by decide +kernel
theorem mx186 : ai_mx ET 186 = 1 := by decide +kernel
theorem rt186 : ai_rt ET 186 = some .boolean := by decide +kernel
theorem in186 : ai_ini ET 186 = false := by decide +kernel
theorem ow187 : ai_own ET 187 = 12 := by decide +kernel
theorem mx187 : ai_mx ET 187 = 1 := by decide +kernel
theorem rt187 : ai_rt ET 187 = some .boolean := by decide +kernel
theorem in187 : ai_ini ET 187 = false := by decide +kernel
theorem ow188 : ai_own ET 188 = 12 := by decide +kernel
theorem mx188 : ai_mx ET 188 = 3 := by decide +kernel
theorem rt188 : ai_rt ET 188 = some .boolean := by decide +kernel
theorem in188 : ai_ini ET 188 = false := by decide +kernel
theorem ow189 : ai_own ET 189 = 12 := by decide +kernel
theorem mx189 : ai_mx ET 189 = 3 := by decide +kernel
theorem rt189 : ai_rt ET 189 = some .boolean := by decide +kernel
theorem in189 : ai_ini ET 189 = false := by decide +kernel
theorem ow190 : ai_own ET 190 = 12 := by decide +kernel
theorem mx190 : ai_mx ET 190 = 2 := by decide +kernel
theorem rt190 : ai_rt ET 190 = some .boolean := by decide +kernel
theorem in190 : ai_ini ET 190 = false := by decide +kernel
theorem ow191 : ai_own ET 191 = 12 := by decide +kernel
theorem mx191 : ai_mx ET 191 = 2 := by decide +kernel
theorem rt191 : ai_rt ET 191 = some .boolean := by decide +kernel
theorem in191 : ai_ini ET 191 = false := by decide +kernel
theorem ow192 : ai_own ET 192 = 12 := by decide +kernel
theorem mx192 : ai_mx ET 192 = 3 := by decide +kernel
theorem rt192 : ai_rt ET 192 = some .boolean := by decide +kernel
theorem in192 : ai_ini ET 192 = false := by decide +kernel
theorem ow193 : ai_own ET 193 = 12 := by decide +kernel
theorem mx193 : ai_mx ET 193 = 4 := by decide +kernel
theorem rt193 : ai_rt ET 193 = some .int := by decide +kernel
theorem in193 : ai_ini ET 193 = false := by decide +kernel
theorem ow194 : ai_own ET 194 = 12 := by decide +kernel
theorem mx194 : ai_mx ET 194 = 3 := by decide +kernel
theorem rt194 : ai_rt ET 194 = some .boolean := by decide +kernel
theorem in194 : ai_ini ET 194 = false := by decide +kernel
theorem ow195 : ai_own ET 195 = 12 := by decide +kernel
theorem mx195 : ai_mx ET 195 = 3 := by decide +kernel
theorem rt195 : ai_rt ET 195 = some .boolean := by decide +kernel
theorem in195 : ai_ini ET 195 = false := by decide +kernel
theorem ow196 : ai_own ET 196 = 12 := by decide +kernel
theorem mx196 : ai_mx ET 196 = 1 := by decide +kernel
theorem rt196 : ai_rt ET 196 = some .boolean := by decide +kernel
theorem in196 : ai_ini ET 196 = false := by decide +kernel
theorem ow197 : ai_own ET 197 = 12 := by decide +kernel
theorem mx197 : ai_mx ET 197 = 2 := by decide +kernel
theorem rt197 : ai_rt ET 197 = some .boolean := by decide +kernel
theorem in197 : ai_ini ET 197 = false := by decide +kernel
theorem ow198 : ai_own ET 198 = 12 := by decide +kernel
theorem mx198 : ai_mx ET 198 = 2 := by decide +kernel
theorem rt198 : ai_rt ET 198 = some .boolean := by decide +kernel
theorem in198 : ai_ini ET 198 = false := by decide +kernel
theorem ow199 : ai_own ET 199 = 12 := by decide +kernel
theorem mx199 : ai_mx ET 199 = 1 := by decide +kernel
theorem rt199 : ai_rt ET 199 = some .int := by decide +kernel
theorem in199 : ai_ini ET 199 = false := by decide +kernel
theorem ow200 : ai_own ET 200 = 12 := by decide +kernel
theorem mx200 : ai_mx ET 200 = 3 := by decide +kernel
theorem rt200 : ai_rt ET 200 = some .int := by decide +kernel
theorem in200 : ai_ini ET 200 = false := by decide +kernel
theorem ow201 : ai_own ET 201 = 12 := by decide +kernel
theorem mx201 : ai_mx ET 201 = 2 := by decide +kernel
theorem rt201 : ai_rt ET 201 = some .boolean := by decide +kernel
theorem in201 : ai_ini ET 201 = false := by decide +kernel
theorem ow202 : ai_own ET 202 = 12 := by decide +kernel
theorem mx202 : ai_mx ET 202 = 2 := by decide +kernel
theorem rt202 : ai_rt ET 202 = some .boolean := by decide +kernel
theorem in202 : ai_ini ET 202 = false := by decide +kernel
theorem ow203 : ai_own ET 203 = 12 := by decide +kernel
theorem mx203 : ai_mx ET 203 = 4 := by decide +kernel
theorem rt203 : ai_rt ET 203 = some .int := by decide +kernel
theorem in203 : ai_ini ET 203 = false := by decide +kernel
theorem ow204 : ai_own ET 204 = 12 := by decide +kernel
theorem mx204 : ai_mx ET 204 = 4 := by decide +kernel
theorem rt204 : ai_rt ET 204 = some .int := by decide +kernel
theorem in204 : ai_ini ET 204 = false := by decide +kernel
theorem ow205 : ai_own ET 205 = 12 := by decide +kernel
theorem mx205 : ai_mx ET 205 = 3 := by decide +kernel
theorem rt205 : ai_rt ET 205 = some .int := by decide +kernel
theorem in205 : ai_ini ET 205 = false := by decide +kernel
theorem ow206 : ai_own ET 206 = 12 := by decide +kernel
theorem mx206 : ai_mx ET 206 = 3 := by decide +kernel
theorem rt206 : ai_rt ET 206 = some .int := by decide +kernel
theorem in206 : ai_ini ET 206 = false := by decide +kernel
theorem ow207 : ai_own ET 207 = 12 := by decide +kernel
theorem mx207 : ai_mx ET 207 = 2 := by decide +kernel
theorem rt207 : ai_rt ET 207 = some .boolean := by decide +kernel
theorem in207 : ai_ini ET 207 = false := by decide +kernel
theorem ow208 : ai_own ET 208 = 12 := by decide +kernel
theorem mx208 : ai_mx ET 208 = 3 := by decide +kernel
theorem rt208 : ai_rt ET 208 = some .int := by decide +kernel
theorem in208 : ai_ini ET 208 = false := by decide +kernel
theorem ow209 : ai_own ET 209 = 12 := by decide +kernel
theorem mx209 : ai_mx ET 209 = 6 := by decide +kernel
theorem rt209 : ai_rt ET 209 = some .int := by decide +kernel
theorem in209 : ai_ini ET 209 = false := by decide +kernel
theorem ow210 : ai_own ET 210 = 12 := by decide +kernel
theorem mx210 : ai_mx ET 210 = 2 := by decide +kernel
theorem rt210 : ai_rt ET 210 = some .int := by decide +kernel
theorem in210 : ai_ini ET 210 = false := by decide +kernel
theorem ow211 : ai_own ET 211 = 12 := by decide +kernel
theorem mx211 : ai_mx ET 211 = 3 := by decide +kernel
theorem rt211 : ai_rt ET 211 = some .int := by decide +kernel
theorem in211 : ai_ini ET 211 = false := by decide +kernel
theorem ow212 : ai_own ET 212 = 12 := by decide +kernel
theorem mx212 : ai_mx ET 212 = 4 := by decide +kernel
theorem rt212 : ai_rt ET 212 = some .boolean := by decide +kernel
theorem in212 : ai_ini ET 212 = false := by decide +kernel
theorem ow213 : ai_own ET 213 = 12 := by decide +kernel
theorem mx213 : ai_mx ET 213 = 4 := by decide +kernel
theorem rt213 : ai_rt ET 213 = some .boolean := by decide +kernel
theorem in213 : ai_ini ET 213 = false := by decide +kernel
theorem ow214 : ai_own ET 214 = 12 := by decide +kernel
theorem mx214 : ai_mx ET 214 = 2 := by decide +kernel
theorem rt214 : ai_rt ET 214 = some .int := by decide +kernel
theorem in214 : ai_ini ET 214 = false := by decide +kernel
theorem ow215 : ai_own ET 215 = 12 := by decide +kernel
theorem mx215 : ai_mx ET 215 = 2 := by decide +kernel
theorem rt215 : ai_rt ET 215 = some .int := by decide +kernel
theorem in215 : ai_ini ET 215 = false := by decide +kernel
theorem ow216 : ai_own ET 216 = 12 := by decide +kernel
theorem mx216 : ai_mx ET 216 = 4 := by decide +kernel
theorem rt216 : ai_rt ET 216 = some .int := by decide +kernel
theorem in216 : ai_ini ET 216 = false := by decide +kernel
theorem ow217 : ai_own ET 217 = 12 := by decide +kernel
theorem mx217 : ai_mx ET 217 = 4 := by decide +kernel
theorem rt217 : ai_rt ET 217 = some .boolean := by decide +kernel
theorem in217 : ai_ini ET 217 = false := by decide +kernel
theorem ow218 : ai_own ET 218 = 12 := by decide +kernel
theorem mx218 : ai_mx ET 218 = 4 := by decide +kernel
theorem rt218 : ai_rt ET 218 = some .int := by decide +kernel
theorem in218 : ai_ini ET 218 = false := by decide +kernel
theorem ow219 : ai_own ET 219 = 12 := by decide +kernel
theorem mx219 : ai_mx ET 219 = 5 := by decide +kernel
theorem rt219 : ai_rt ET 219 = some .int := by decide +kernel
theorem in219 : ai_ini ET 219 = false := by decide +kernel
theorem ow220 : ai_own ET 220 = 12 := by decide +kernel
theorem mx220 : ai_mx ET 220 = 2 := by decide +kernel
theorem rt220 : ai_rt ET 220 = none := by decide +kernel
theorem in220 : ai_ini ET 220 = false := by decide +kernel
theorem ow221 : ai_own ET 221 = 12 := by decide +kernel
theorem mx221 : ai_mx ET 221 = 4 := by decide +kernel
theorem rt221 : ai_rt ET 221 = none := by decide +kernel
theorem in221 : ai_ini ET 221 = false := by decide +kernel
theorem ow222 : ai_own ET 222 = 12 := by decide +kernel
theorem mx222 : ai_mx ET 222 = 3 := by decide +kernel
theorem rt222 : ai_rt ET 222 = some .int := by decide +kernel
theorem in222 : ai_ini ET 222 = false := by decide +kernel
theorem ow223 : ai_own ET 223 = 12 := by decide +kernel
theorem mx223 : ai_mx ET 223 = 5 := by decide +kernel
theorem rt223 : ai_rt ET 223 = none := by decide +kernel
theorem in223 : ai_ini ET 223 = false := by decide +kernel
theorem ow224 : ai_own ET 224 = 12 := by decide +kernel
theorem mx224 : ai_mx ET 224 = 2 := by decide +kernel
theorem rt224 : ai_rt ET 224 = some .int := by decide +kernel
theorem in224 : ai_ini ET 224 = false := by decide +kernel
theorem ow225 : ai_own ET 225 = 12 := by decide +kernel
theorem mx225 : ai_mx ET 225 = 5 := by decide +kernel
theorem rt225 : ai_rt ET 225 = some .int := by decide +kernel
theorem in225 : ai_ini ET 225 = false := by decide +kernel
theorem ow226 : ai_own ET 226 = 12 := by decide +kernel
theorem mx226 : ai_mx ET 226 = 4 := by decide +kernel
theorem rt226 : ai_rt ET 226 = some .int := by decide +kernel
theorem in226 : ai_ini ET 226 = false := by decide +kernel
theorem ow227 : ai_own ET 227 = 12 := by decide +kernel
theorem mx227 : ai_mx ET 227 = 2 := by decide +kernel
theorem rt227 : ai_rt ET 227 = some .boolean := by decide +kernel
theorem in227 : ai_ini ET 227 = false := by decide +kernel
theorem ow228 : ai_own ET 228 = 12 := by decide +kernel
theorem mx228 : ai_mx ET 228 = 5 := by decide +kernel
theorem rt228 : ai_rt ET 228 = some .int := by decide +kernel
theorem in228 : ai_ini ET 228 = false := by decide +kernel
theorem ow229 : ai_own ET 229 = 12 := by decide +kernel
theorem mx229 : ai_mx ET 229 = 3 := by decide +kernel
theorem rt229 : ai_rt ET 229 = some .int := by decide +kernel
theorem in229 : ai_ini ET 229 = false := by decide +kernel
theorem ow230 : ai_own ET 230 = 12 := by decide +kernel
theorem mx230 : ai_mx ET 230 = 2 := by decide +kernel
theorem rt230 : ai_rt ET 230 = none := by decide +kernel
theorem in230 : ai_ini ET 230 = false := by decide +kernel
theorem ow231 : ai_own ET 231 = 12 := by decide +kernel
theorem mx231 : ai_mx ET 231 = 2 := by decide +kernel
theorem rt231 : ai_rt ET 231 = some .boolean := by decide +kernel
theorem in231 : ai_ini ET 231 = false := by decide +kernel
theorem ow232 : ai_own ET 232 = 12 := by decide +kernel
theorem mx232 : ai_mx ET 232 = 2 := by decide +kernel
theorem rt232 : ai_rt ET 232 = some .int := by decide +kernel
theorem in232 : ai_ini ET 232 = false := by decide +kernel
theorem ow233 : ai_own ET 233 = 12 := by decide +kernel
theorem mx233 : ai_mx ET 233 = 5 := by decide +kernel
theorem rt233 : ai_rt ET 233 = some .int := by decide +kernel
theorem in233 : ai_ini ET 233 = false := by decide +kernel
theorem ow234 : ai_own ET 234 = 12 := by decide +kernel
theorem mx234 : ai_mx ET 234 = 1 := by decide +kernel
theorem rt234 : ai_rt ET 234 = some .int := by decide +kernel
theorem in234 : ai_ini ET 234 = false := by decide +kernel
theorem ow235 : ai_own ET 235 = 12 := by decide +kernel
theorem mx235 : ai_mx ET 235 = 2 := by decide +kernel
theorem rt235 : ai_rt ET 235 = some .int := by decide +kernel
theorem in235 : ai_ini ET 235 = false := by decide +kernel
theorem ow236 : ai_own ET 236 = 12 := by decide +kernel
theorem mx236 : ai_mx ET 236 = 6 := by decide +kernel
theorem rt236 : ai_rt ET 236 = some .int := by decide +kernel
theorem in236 : ai_ini ET 236 = false := by decide +kernel
theorem ow237 : ai_own ET 237 = 12 := by decide +kernel
theorem mx237 : ai_mx ET 237 = 2 := by decide +kernel
theorem rt237 : ai_rt ET 237 = some .boolean := by decide +kernel
theorem in237 : ai_ini ET 237 = false := by decide +kernel
theorem ow238 : ai_own ET 238 = 12 := by decide +kernel
theorem mx238 : ai_mx ET 238 = 3 := by decide +kernel
theorem rt238 : ai_rt ET 238 = some .int := by decide +kernel
theorem in238 : ai_ini ET 238 = false := by decide +kernel
theorem ow239 : ai_own ET 239 = 12 := by decide +kernel
theorem mx239 : ai_mx ET 239 = 4 := by decide +kernel
theorem rt239 : ai_rt ET 239 = none := by decide +kernel
theorem in239 : ai_ini ET 239 = false := by decide +kernel
theorem ow240 : ai_own ET 240 = 12 := by decide +kernel
theorem mx240 : ai_mx ET 240 = 5 := by decide +kernel
theorem rt240 : ai_rt ET 240 = some .int := by decide +kernel
theorem in240 : ai_ini ET 240 = false := by decide +kernel
theorem ow241 : ai_own ET 241 = 12 := by decide +kernel
theorem mx241 : ai_mx ET 241 = 2 := by decide +kernel
theorem rt241 : ai_rt ET 241 = some .int := by decide +kernel
theorem in241 : ai_ini ET 241 = false := by decide +kernel
theorem ow242 : ai_own ET 242 = 12 := by decide +kernel
theorem mx242 : ai_mx ET 242 = 7 := by decide +kernel
theorem rt242 : ai_rt ET 242 = some .int := by decide +kernel
theorem in242 : ai_ini ET 242 = false := by decide +kernel
theorem ow243 : ai_own ET 243 = 12 := by decide +kernel
theorem mx243 : ai_mx ET 243 = 2 := by decide +kernel
theorem rt243 : ai_rt ET 243 = some .int := by decide +kernel
theorem in243 : ai_ini ET 243 = false := by decide +kernel
theorem ow244 : ai_own ET 244 = 12 := by decide +kernel
theorem mx244 : ai_mx ET 244 = 2 := by decide +kernel
theorem rt244 : ai_rt ET 244 = some .int := by decide +kernel
theorem in244 : ai_ini ET 244 = false := by decide +kernel
theorem ow245 : ai_own ET 245 = 12 := by decide +kernel
theorem mx245 : ai_mx ET 245 = 10 := by decide +kernel
theorem rt245 : ai_rt ET 245 = some .long := by decide +kernel
theorem in245 : ai_ini ET 245 = false := by decide +kernel
theorem ow246 : ai_own ET 246 = 12 := by decide +kernel
theorem mx246 : ai_mx ET 246 = 3 := by decide +kernel
theorem rt246 : ai_rt ET 246 = some .boolean := by decide +kernel
theorem in246 : ai_ini ET 246 = false := by decide +kernel
theorem ow247 : ai_own ET 247 = 12 := by decide +kernel
theorem mx247 : ai_mx ET 247 = 7 := by decide +kernel
theorem rt247 : ai_rt ET 247 = some .long := by decide +kernel
theorem in247 : ai_ini ET 247 = false := by decide +kernel
theorem ow248 : ai_own ET 248 = 12 := by decide +kernel
theorem mx248 : ai_mx ET 248 = 5 := by decide +kernel
theorem rt248 : ai_rt ET 248 = some .long := by decide +kernel
theorem in248 : ai_ini ET 248 = false := by decide +kernel
theorem ow249 : ai_own ET 249 = 12 := by decide +kernel
theorem mx249 : ai_mx ET 249 = 10 := by decide +kernel
theorem rt249 : ai_rt ET 249 = some .long := by decide +kernel
theorem in249 : ai_ini ET 249 = false := by decide +kernel
theorem ow250 : ai_own ET 250 = 12 := by decide +kernel
theorem mx250 : ai_mx ET 250 = 9 := by decide +kernel
theorem rt250 : ai_rt ET 250 = some .int := by decide +kernel
theorem in250 : ai_ini ET 250 = false := by decide +kernel
theorem ow251 : ai_own ET 251 = 12 := by decide +kernel
theorem mx251 : ai_mx ET 251 = 6 := by decide +kernel
theorem rt251 : ai_rt ET 251 = some .int := by decide +kernel
theorem in251 : ai_ini ET 251 = false := by decide +kernel
theorem ow252 : ai_own ET 252 = 12 := by decide +kernel
theorem mx252 : ai_mx ET 252 = 5 := by decide +kernel
theorem rt252 : ai_rt ET 252 = some .int := by decide +kernel
theorem in252 : ai_ini ET 252 = false := by decide +kernel
theorem ow253 : ai_own ET 253 = 12 := by decide +kernel
theorem mx253 : ai_mx ET 253 = 3 := by decide +kernel
theorem rt253 : ai_rt ET 253 = some .int := by decide +kernel
theorem in253 : ai_ini ET 253 = false := by decide +kernel
theorem ow254 : ai_own ET 254 = 12 := by decide +kernel
theorem mx254 : ai_mx ET 254 = 6 := by decide +kernel
theorem rt254 : ai_rt ET 254 = some .int := by decide +kernel
theorem in254 : ai_ini ET 254 = false := by decide +kernel
theorem ow255 : ai_own ET 255 = 12 := by decide +kernel
theorem mx255 : ai_mx ET 255 = 4 := by decide +kernel
theorem rt255 : ai_rt ET 255 = some .int := by decide +kernel
theorem in255 : ai_ini ET 255 = false := by decide +kernel
theorem ow256 : ai_own ET 256 = 12 := by decide +kernel
theorem mx256 : ai_mx ET 256 = 6 := by decide +kernel
theorem rt256 : ai_rt ET 256 = some .int := by decide +kernel
theorem in256 : ai_ini ET 256 = false := by decide +kernel
theorem ow257 : ai_own ET 257 = 12 := by decide +kernel
theorem mx257 : ai_mx ET 257 = 2 := by decide +kernel
theorem rt257 : ai_rt ET 257 = some .int := by decide +kernel
theorem in257 : ai_ini ET 257 = false := by decide +kernel
theorem ow258 : ai_own ET 258 = 12 := by decide +kernel
theorem mx258 : ai_mx ET 258 = 6 := by decide +kernel
theorem rt258 : ai_rt ET 258 = none := by decide +kernel
theorem in258 : ai_ini ET 258 = false := by decide +kernel
theorem ow259 : ai_own ET 259 = 12 := by decide +kernel
theorem mx259 : ai_mx ET 259 = 4 := by decide +kernel
theorem rt259 : ai_rt ET 259 = some .boolean := by decide +kernel
theorem in259 : ai_ini ET 259 = false := by decide +kernel
theorem ow260 : ai_own ET 260 = 12 := by decide +kernel
theorem mx260 : ai_mx ET 260 = 3 := by decide +kernel
theorem rt260 : ai_rt ET 260 = none := by decide +kernel
theorem in260 : ai_ini ET 260 = false := by decide +kernel
theorem ow261 : ai_own ET 261 = 12 := by decide +kernel
theorem mx261 : ai_mx ET 261 = 3 := by decide +kernel
theorem rt261 : ai_rt ET 261 = some .boolean := by decide +kernel
theorem in261 : ai_ini ET 261 = false := by decide +kernel
theorem ow262 : ai_own ET 262 = 12 := by decide +kernel
theorem mx262 : ai_mx ET 262 = 3 := by decide +kernel
theorem rt262 : ai_rt ET 262 = some .int := by decide +kernel
theorem in262 : ai_ini ET 262 = false := by decide +kernel
theorem ow263 : ai_own ET 263 = 12 := by decide +kernel
theorem mx263 : ai_mx ET 263 = 4 := by decide +kernel
theorem rt263 : ai_rt ET 263 = some .int := by decide +kernel
theorem in263 : ai_ini ET 263 = false := by decide +kernel
theorem ow264 : ai_own ET 264 = 12 := by decide +kernel
theorem mx264 : ai_mx ET 264 = 10 := by decide +kernel
theorem rt264 : ai_rt ET 264 = some .int := by decide +kernel
theorem in264 : ai_ini ET 264 = false := by decide +kernel
theorem ow265 : ai_own ET 265 = 12 := by decide +kernel
theorem mx265 : ai_mx ET 265 = 2 := by decide +kernel
theorem rt265 : ai_rt ET 265 = some .int := by decide +kernel
theorem in265 : ai_ini ET 265 = false := by decide +kernel
theorem ow266 : ai_own ET 266 = 12 := by decide +kernel
theorem mx266 : ai_mx ET 266 = 6 := by decide +kernel
theorem rt266 : ai_rt ET 266 = some .int := by decide +kernel
theorem in266 : ai_ini ET 266 = false := by decide +kernel
theorem ow267 : ai_own ET 267 = 12 := by decide +kernel
theorem mx267 : ai_mx ET 267 = 2 := by decide +kernel
theorem rt267 : ai_rt ET 267 = none := by decide +kernel
theorem in267 : ai_ini ET 267 = false := by decide +kernel
theorem ow268 : ai_own ET 268 = 12 := by decide +kernel
theorem mx268 : ai_mx ET 268 = 2 := by decide +kernel
theorem rt268 : ai_rt ET 268 = none := by decide +kernel
theorem in268 : ai_ini ET 268 = false := by decide +kernel
theorem ow269 : ai_own ET 269 = 12 := by decide +kernel
theorem mx269 : ai_mx ET 269 = 4 := by decide +kernel
theorem rt269 : ai_rt ET 269 = some .int := by decide +kernel
theorem in269 : ai_ini ET 269 = false := by decide +kernel
theorem ow270 : ai_own ET 270 = 12 := by decide +kernel
theorem mx270 : ai_mx ET 270 = 3 := by decide +kernel
theorem rt270 : ai_rt ET 270 = some .int := by decide +kernel
theorem in270 : ai_ini ET 270 = false := by decide +kernel
theorem ow271 : ai_own ET 271 = 12 := by decide +kernel
theorem mx271 : ai_mx ET 271 = 5 := by decide +kernel
theorem rt271 : ai_rt ET 271 = some .int := by decide +kernel
theorem in271 : ai_ini ET 271 = false := by decide +kernel
theorem ow272 : ai_own ET 272 = 12 := by decide +kernel
theorem mx272 : ai_mx ET 272 = 3 := by decide +kernel
theorem rt272 : ai_rt ET 272 = some .boolean := by decide +kernel
theorem in272 : ai_ini ET 272 = false := by decide +kernel
theorem ow273 : ai_own ET 273 = 12 := by decide +kernel
theorem mx273 : ai_mx ET 273 = 3 := by decide +kernel
theorem rt273 : ai_rt ET 273 = some .boolean := by decide +kernel
theorem in273 : ai_ini ET 273 = false := by decide +kernel
theorem ow274 : ai_own ET 274 = 12 := by decide +kernel
theorem mx274 : ai_mx ET 274 = 7 := by decide +kernel
theorem rt274 : ai_rt ET 274 = some .int := by decide +kernel
theorem in274 : ai_ini ET 274 = false := by decide +kernel
theorem ow275 : ai_own ET 275 = 12 := by decide +kernel
theorem mx275 : ai_mx ET 275 = 2 := by decide +kernel
theorem rt275 : ai_rt ET 275 = some .int := by decide +kernel
theorem in275 : ai_ini ET 275 = false := by decide +kernel
theorem ow276 : ai_own ET 276 = 12 := by decide +kernel
theorem mx276 : ai_mx ET 276 = 3 := by decide +kernel
theorem rt276 : ai_rt ET 276 = some .int := by decide +kernel
theorem in276 : ai_ini ET 276 = false := by decide +kernel
theorem ow277 : ai_own ET 277 = 12 := by decide +kernel
theorem mx277 : ai_mx ET 277 = 1 := by decide +kernel
theorem rt277 : ai_rt ET 277 = none := by decide +kernel
theorem in277 : ai_ini ET 277 = false := by decide +kernel
theorem ow278 : ai_own ET 278 = 12 := by decide +kernel
theorem mx278 : ai_mx ET 278 = 4 := by decide +kernel
theorem rt278 : ai_rt ET 278 = none := by decide +kernel
theorem in278 : ai_ini ET 278 = false := by decide +kernel
theorem ow279 : ai_own ET 279 = 12 := by decide +kernel
theorem mx279 : ai_mx ET 279 = 2 := by decide +kernel
theorem rt279 : ai_rt ET 279 = none := by decide +kernel
theorem in279 : ai_ini ET 279 = false := by decide +kernel
theorem ow280 : ai_own ET 280 = 12 := by decide +kernel
theorem mx280 : ai_mx ET 280 = 1 := by decide +kernel
theorem rt280 : ai_rt ET 280 = some .boolean := by decide +kernel
theorem in280 : ai_ini ET 280 = false := by decide +kernel
theorem ow281 : ai_own ET 281 = 12 := by decide +kernel
theorem mx281 : ai_mx ET 281 = 5 := by decide +kernel
theorem rt281 : ai_rt ET 281 = some .boolean := by decide +kernel
theorem in281 : ai_ini ET 281 = false := by decide +kernel
theorem ow282 : ai_own ET 282 = 12 := by decide +kernel
theorem mx282 : ai_mx ET 282 = 1 := by decide +kernel
theorem rt282 : ai_rt ET 282 = some .int := by decide +kernel
theorem in282 : ai_ini ET 282 = false := by decide +kernel
theorem ow283 : ai_own ET 283 = 12 := by decide +kernel
theorem mx283 : ai_mx ET 283 = 4 := by decide +kernel
theorem rt283 : ai_rt ET 283 = some .int := by decide +kernel
theorem in283 : ai_ini ET 283 = false := by decide +kernel
theorem ow284 : ai_own ET 284 = 12 := by decide +kernel
theorem mx284 : ai_mx ET 284 = 5 := by decide +kernel
theorem rt284 : ai_rt ET 284 = some .boolean := by decide +kernel
theorem in284 : ai_ini ET 284 = false := by decide +kernel
theorem ow285 : ai_own ET 285 = 12 := by decide +kernel
theorem mx285 : ai_mx ET 285 = 6 := by decide +kernel
theorem rt285 : ai_rt ET 285 = some .boolean := by decide +kernel
theorem in285 : ai_ini ET 285 = false := by decide +kernel
theorem ow286 : ai_own ET 286 = 12 := by decide +kernel
theorem mx286 : ai_mx ET 286 = 3 := by decide +kernel
theorem rt286 : ai_rt ET 286 = some .boolean := by decide +kernel
theorem in286 : ai_ini ET 286 = false := by decide +kernel
theorem ow287 : ai_own ET 287 = 12 := by decide +kernel
theorem mx287 : ai_mx ET 287 = 3 := by decide +kernel
theorem rt287 : ai_rt ET 287 = some .boolean := by decide +kernel
theorem in287 : ai_ini ET 287 = false := by decide +kernel
theorem ow288 : ai_own ET 288 = 12 := by decide +kernel
theorem mx288 : ai_mx ET 288 = 2 := by decide +kernel
theorem rt288 : ai_rt ET 288 = some .int := by decide +kernel
theorem in288 : ai_ini ET 288 = false := by decide +kernel
theorem ow289 : ai_own ET 289 = 13 := by decide +kernel
theorem mx289 : ai_mx ET 289 = 8 := by decide +kernel
theorem rt289 : ai_rt ET 289 = some .boolean := by decide +kernel
theorem in289 : ai_ini ET 289 = false := by decide +kernel
theorem pl0_3 : ai_pool ET 0 3 = some (4, 0, 0, 0) := by decide +kernel
theorem pl0_9 : ai_pool ET 0 9 = some (0, 0, 0, 1) := by decide +kernel
theorem pl0_15 : ai_pool ET 0 15 = some (0, 0, 1, 1) := by decide +kernel
theorem pl0_18 : ai_pool ET 0 18 = some (0, 0, 2, 1) := by decide +kernel
theorem pl0_21 : ai_pool ET 0 21 = some (0, 0, 3, 1) := by decide +kernel
theorem pl0_24 : ai_pool ET 0 24 = some (0, 0, 4, 0) := by decide +kernel
theorem pl0_28 : ai_pool ET 0 28 = some (0, 0, 5, 0) := by decide +kernel
theorem pl0_32 : ai_pool ET 0 32 = some (0, 0, 6, 0) := by decide +kernel
theorem pl0_35 : ai_pool ET 0 35 = some (0, 0, 7, 0) := by decide +kernel
theorem pl0_38 : ai_pool ET 0 38 = some (0, 0, 8, 0) := by decide +kernel
theorem pl0_41 : ai_pool ET 0 41 = some (0, 0, 9, 0) := by decide +kernel
theorem pl0_44 : ai_pool ET 0 44 = some (0, 7, 4, 0) := by decide +kernel
theorem pl0_49 : ai_pool ET 0 49 = some (1, 145, 2, 0) := by decide +kernel
theorem pl0_53 : ai_pool ET 0 53 = some (1, 50, 1, 0) := by decide +kernel
theorem pl0_57 : ai_pool ET 0 57 = some (0, 7, 8, 0) := by decide +kernel
theorem pl0_60 : ai_pool ET 0 60 = some (1, 42, 1, 0) := by decide +kernel
theorem pl0_64 : ai_pool ET 0 64 = some (1, 33, 1, 0) := by decide +kernel
theorem pl0_67 : ai_pool ET 0 67 = some (1, 18, 0, 0) := by decide +kernel
theorem pl0_70 : ai_pool ET 0 70 = some (1, 146, 4, 0) := by decide +kernel
theorem pl0_74 : ai_pool ET 0 74 = some (1, 38, 2, 0) := by decide +kernel
theorem pl0_78 : ai_pool ET 0 78 = some (1, 147, 3, 0) := by decide +kernel
theorem pl0_82 : ai_pool ET 0 82 = some (1, 41, 1, 0) := by decide +kernel
theorem pl0_85 : ai_pool ET 0 85 = some (1, 148, 1, 0) := by decide +kernel
theorem pl0_88 : ai_pool ET 0 88 = some (1, 150, 2, 0) := by decide +kernel
theorem pl0_92 : ai_pool ET 0 92 = some (1, 151, 4, 0) := by decide +kernel
theorem pl0_96 : ai_pool ET 0 96 = some (1, 152, 4, 1) := by decide +kernel
theorem pl0_99 : ai_pool ET 0 99 = some (1, 84, 1, 0) := by decide +kernel
theorem pl0_104 : ai_pool ET 0 104 = some (1, 85, 1, 0) := by decide +kernel
theorem pl0_108 : ai_pool ET 0 108 = some (1, 89, 0, 0) := by decide +kernel
theorem pl0_112 : ai_pool ET 0 112 = some (1, 68, 3, 0) := by decide +kernel
theorem pl0_116 : ai_pool ET 0 116 = some (1, 72, 3, 0) := by decide +kernel
theorem pl0_120 : ai_pool ET 0 120 = some (1, 78, 3, 0) := by decide +kernel
theorem pl0_123 : ai_pool ET 0 123 = some (1, 80, 3, 0) := by decide +kernel
theorem pl1_3 : ai_pool ET 1 3 = some (4, 0, 0, 0) := by decide +kernel
theorem pl1_9 : ai_pool ET 1 9 = some (0, 1, 0, 1) := by decide +kernel
theorem pl1_15 : ai_pool ET 1 15 = some (0, 1, 1, 1) := by decide +kernel
theorem pl1_19 : ai_pool ET 1 19 = some (0, 1, 2, 1) := by decide +kernel
theorem pl1_22 : ai_pool ET 1 22 = some (0, 1, 3, 1) := by decide +kernel
theorem pl1_25 : ai_pool ET 1 25 = some (0, 1, 4, 1) := by decide +kernel
theorem pl1_28 : ai_pool ET 1 28 = some (0, 1, 5, 1) := by decide +kernel
theorem pl1_31 : ai_pool ET 1 31 = some (0, 1, 6, 1) := by decide +kernel
theorem pl1_34 : ai_pool ET 1 34 = some (0, 1, 7, 0) := by decide +kernel
theorem pl1_38 : ai_pool ET 1 38 = some (0, 1, 8, 0) := by decide +kernel
theorem pl1_41 : ai_pool ET 1 41 = some (0, 1, 9, 0) := by decide +kernel
theorem pl1_44 : ai_pool ET 1 44 = some (0, 1, 10, 0) := by decide +kernel
theorem pl1_47 : ai_pool ET 1 47 = some (0, 1, 11, 0) := by decide +kernel
theorem pl1_50 : ai_pool ET 1 50 = some (0, 1, 12, 0) := by decide +kernel
theorem pl1_53 : ai_pool ET 1 53 = some (5, 0, 0, 0) := by decide +kernel
theorem pl1_59 : ai_pool ET 1 59 = some (1, 69, 1, 0) := by decide +kernel
theorem pl1_63 : ai_pool ET 1 63 = some (6, 0, 0, 0) := by decide +kernel
theorem pl2_3 : ai_pool ET 2 3 = some (4, 0, 0, 0) := by decide +kernel
theorem pl2_9 : ai_pool ET 2 9 = some (0, 2, 0, 1) := by decide +kernel
theorem pl2_15 : ai_pool ET 2 15 = some (0, 2, 1, 1) := by decide +kernel
theorem pl2_18 : ai_pool ET 2 18 = some (0, 2, 2, 0) := by decide +kernel
theorem pl2_22 : ai_pool ET 2 22 = some (0, 2, 3, 0) := by decide +kernel
theorem pl2_25 : ai_pool ET 2 25 = some (0, 3, 0, 2) := by decide +kernel
theorem pl2_31 : ai_pool ET 2 31 = some (0, 1, 7, 0) := by decide +kernel
theorem pl2_34 : ai_pool ET 2 34 = some (1, 101, 3, 0) := by decide +kernel
theorem pl2_38 : ai_pool ET 2 38 = some (1, 102, 1, 0) := by decide +kernel
theorem pl2_42 : ai_pool ET 2 42 = some (1, 68, 3, 0) := by decide +kernel
theorem pl2_46 : ai_pool ET 2 46 = some (0, 3, 1, 2) := by decide +kernel
theorem pl2_49 : ai_pool ET 2 49 = some (1, 103, 5, 0) := by decide +kernel
theorem pl2_53 : ai_pool ET 2 53 = some (5, 0, 0, 0) := by decide +kernel
theorem pl3_3 : ai_pool ET 3 3 = some (4, 0, 0, 0) := by decide +kernel
theorem pl3_9 : ai_pool ET 3 9 = some (0, 3, 1, 1) := by decide +kernel
theorem pl3_15 : ai_pool ET 3 15 = some (0, 3, 2, 1) := by decide +kernel
theorem pl3_18 : ai_pool ET 3 18 = some (0, 3, 3, 1) := by decide +kernel
theorem pl3_21 : ai_pool ET 3 21 = some (0, 3, 4, 1) := by decide +kernel
theorem pl3_24 : ai_pool ET 3 24 = some (0, 3, 5, 1) := by decide +kernel
theorem pl3_27 : ai_pool ET 3 27 = some (0, 3, 6, 1) := by decide +kernel
theorem pl3_30 : ai_pool ET 3 30 = some (0, 3, 7, 1) := by decide +kernel
theorem pl3_33 : ai_pool ET 3 33 = some (0, 3, 8, 1) := by decide +kernel
theorem pl3_36 : ai_pool ET 3 36 = some (0, 3, 9, 0) := by decide +kernel
theorem pl3_40 : ai_pool ET 3 40 = some (0, 3, 10, 0) := by decide +kernel
theorem pl3_43 : ai_pool ET 3 43 = some (0, 3, 11, 0) := by decide +kernel
theorem pl3_46 : ai_pool ET 3 46 = some (0, 3, 12, 0) := by decide +kernel
theorem pl3_49 : ai_pool ET 3 49 = some (0, 3, 13, 0) := by decide +kernel
theorem pl3_52 : ai_pool ET 3 52 = some (0, 3, 0, 1) := by decide +kernel
theorem pl3_56 : ai_pool ET 3 56 = some (5, 0, 0, 0) := by decide +kernel
theorem pl3_62 : ai_pool ET 3 62 = some (1, 43, 2, 0) := by decide +kernel
theorem pl3_66 : ai_pool ET 3 66 = some (1, 63, 1, 0) := by decide +kernel
theorem pl3_70 : ai_pool ET 3 70 = some (1, 82, 2, 0) := by decide +kernel
theorem pl3_73 : ai_pool ET 3 73 = some (0, 1, 5, 2) := by decide +kernel
theorem pl3_78 : ai_pool ET 3 78 = some (0, 1, 6, 2) := by decide +kernel
theorem pl3_81 : ai_pool ET 3 81 = some (6, 0, 0, 0) := by decide +kernel
theorem pl3_86 : ai_pool ET 3 86 = some (0, 1, 12, 0) := by decide +kernel
theorem pl3_89 : ai_pool ET 3 89 = some (0, 1, 1, 2) := by decide +kernel
theorem pl3_92 : ai_pool ET 3 92 = some (6, 1, 0, 0) := by decide +kernel
theorem pl3_95 : ai_pool ET 3 95 = some (1, 69, 1, 0) := by decide +kernel
theorem pl3_99 : ai_pool ET 3 99 = some (1, 73, 1, 0) := by decide +kernel
theorem pl3_102 : ai_pool ET 3 102 = some (1, 74, 2, 0) := by decide +kernel
theorem pl3_105 : ai_pool ET 3 105 = some (1, 75, 3, 0) := by decide +kernel
theorem pl3_109 : ai_pool ET 3 109 = some (1, 79, 2, 0) := by decide +kernel
theorem pl3_113 : ai_pool ET 3 113 = some (1, 81, 1, 0) := by decide +kernel
theorem pl3_116 : ai_pool ET 3 116 = some (1, 86, 0, 0) := by decide +kernel
theorem pl3_119 : ai_pool ET 3 119 = some (0, 1, 7, 0) := by decide +kernel
theorem pl3_122 : ai_pool ET 3 122 = some (1, 87, 1, 0) := by decide +kernel
theorem pl3_125 : ai_pool ET 3 125 = some (0, 1, 2, 2) := by decide +kernel
theorem pl3_128 : ai_pool ET 3 128 = some (1, 91, 3, 0) := by decide +kernel
theorem pl3_132 : ai_pool ET 3 132 = some (1, 90, 0, 0) := by decide +kernel
theorem pl3_136 : ai_pool ET 3 136 = some (1, 92, 1, 0) := by decide +kernel
theorem pl3_140 : ai_pool ET 3 140 = some (1, 137, 1, 1) := by decide +kernel
theorem pl3_143 : ai_pool ET 3 143 = some (1, 138, 2, 1) := by decide +kernel
theorem pl3_146 : ai_pool ET 3 146 = some (1, 68, 3, 0) := by decide +kernel
theorem pl3_150 : ai_pool ET 3 150 = some (1, 72, 3, 0) := by decide +kernel
theorem pl3_153 : ai_pool ET 3 153 = some (7, 1103515245, 0, 0) := by decide +kernel
theorem pl4_3 : ai_pool ET 4 3 = some (4, 0, 0, 0) := by decide +kernel
theorem pl4_9 : ai_pool ET 4 9 = some (0, 4, 0, 1) := by decide +kernel
theorem pl4_15 : ai_pool ET 4 15 = some (0, 4, 1, 1) := by decide +kernel
theorem pl4_18 : ai_pool ET 4 18 = some (0, 4, 2, 1) := by decide +kernel
theorem pl4_21 : ai_pool ET 4 21 = some (0, 4, 3, 0) := by decide +kernel
theorem pl4_25 : ai_pool ET 4 25 = some (0, 3, 0, 2) := by decide +kernel
theorem pl4_31 : ai_pool ET 4 31 = some (0, 1, 7, 0) := by decide +kernel
theorem pl4_34 : ai_pool ET 4 34 = some (1, 107, 1, 0) := by decide +kernel
theorem pl4_38 : ai_pool ET 4 38 = some (1, 109, 2, 0) := by decide +kernel
theorem pl4_42 : ai_pool ET 4 42 = some (0, 3, 1, 2) := by decide +kernel
theorem pl4_45 : ai_pool ET 4 45 = some (1, 108, 2, 0) := by decide +kernel
theorem pl4_49 : ai_pool ET 4 49 = some (0, 1, 1, 2) := by decide +kernel
theorem pl5_3 : ai_pool ET 5 3 = some (4, 0, 0, 0) := by decide +kernel
theorem pl5_9 : ai_pool ET 5 9 = some (2, 3, 5, 0) := by decide +kernel
theorem pl5_11 : ai_pool ET 5 11 = some (0, 5, 0, 1) := by decide +kernel
theorem pl5_17 : ai_pool ET 5 17 = some (0, 5, 1, 0) := by decide +kernel
theorem pl5_21 : ai_pool ET 5 21 = some (0, 5, 2, 0) := by decide +kernel
theorem pl5_24 : ai_pool ET 5 24 = some (1, 6, 1, 2) := by decide +kernel
theorem pl5_27 : ai_pool ET 5 27 = some (1, 53, 1, 0) := by decide +kernel
theorem pl6_1 : ai_pool ET 6 1 = some (4, 0, 0, 0) := by decide +kernel
theorem pl6_7 : ai_pool ET 6 7 = some (2, 8, 99, 0) := by decide +kernel
theorem pl6_9 : ai_pool ET 6 9 = some (1, 5, 0, 4) := by decide +kernel
theorem pl6_10 : ai_pool ET 6 10 = some (0, 6, 2, 1) := by decide +kernel
theorem pl6_16 : ai_pool ET 6 16 = some (0, 6, 0, 1) := by decide +kernel
theorem pl6_20 : ai_pool ET 6 20 = some (2, 3, 5, 0) := by decide +kernel
theorem pl6_22 : ai_pool ET 6 22 = some (1, 6, 1, 2) := by decide +kernel
theorem pl6_25 : ai_pool ET 6 25 = some (0, 6, 1, 1) := by decide +kernel
theorem pl6_29 : ai_pool ET 6 29 = some (1, 27, 0, 0) := by decide +kernel
theorem pl6_34 : ai_pool ET 6 34 = some (1, 28, 0, 0) := by decide +kernel
theorem pl6_35 : ai_pool ET 6 35 = some (1, 29, 0, 0) := by decide +kernel
theorem pl6_36 : ai_pool ET 6 36 = some (1, 52, 1, 0) := by decide +kernel
theorem pl6_39 : ai_pool ET 6 39 = some (1, 53, 1, 0) := by decide +kernel
theorem pl6_42 : ai_pool ET 6 42 = some (1, 54, 1, 0) := by decide +kernel
theorem pl7_3 : ai_pool ET 7 3 = some (4, 0, 0, 0) := by decide +kernel
theorem pl7_9 : ai_pool ET 7 9 = some (0, 7, 0, 0) := by decide +kernel
theorem pl7_15 : ai_pool ET 7 15 = some (0, 7, 1, 0) := by decide +kernel
theorem pl7_19 : ai_pool ET 7 19 = some (0, 7, 2, 0) := by decide +kernel
theorem pl7_22 : ai_pool ET 7 22 = some (0, 7, 3, 0) := by decide +kernel
theorem pl7_25 : ai_pool ET 7 25 = some (0, 7, 4, 0) := by decide +kernel
theorem pl7_28 : ai_pool ET 7 28 = some (0, 7, 5, 0) := by decide +kernel
theorem pl7_31 : ai_pool ET 7 31 = some (0, 7, 6, 0) := by decide +kernel
theorem pl7_34 : ai_pool ET 7 34 = some (0, 7, 7, 0) := by decide +kernel
theorem pl7_38 : ai_pool ET 7 38 = some (0, 7, 8, 0) := by decide +kernel
theorem pl7_41 : ai_pool ET 7 41 = some (0, 7, 9, 0) := by decide +kernel
theorem pl7_44 : ai_pool ET 7 44 = some (6, 1, 0, 0) := by decide +kernel
theorem pl7_50 : ai_pool ET 7 50 = some (1, 18, 0, 0) := by decide +kernel
theorem pl7_53 : ai_pool ET 7 53 = some (1, 19, 1, 0) := by decide +kernel
theorem pl7_57 : ai_pool ET 7 57 = some (1, 20, 0, 0) := by decide +kernel
theorem pl7_60 : ai_pool ET 7 60 = some (1, 21, 1, 1) := by decide +kernel
theorem pl7_64 : ai_pool ET 7 64 = some (1, 22, 1, 1) := by decide +kernel
theorem pl7_67 : ai_pool ET 7 67 = some (1, 23, 0, 0) := by decide +kernel
theorem pl7_70 : ai_pool ET 7 70 = some (1, 24, 2, 0) := by decide +kernel
theorem pl7_73 : ai_pool ET 7 73 = some (1, 25, 1, 1) := by decide +kernel
theorem pl7_76 : ai_pool ET 7 76 = some (6, 4, 0, 0) := by decide +kernel
theorem pl7_78 : ai_pool ET 7 78 = some (6, 2, 0, 0) := by decide +kernel
theorem pl7_84 : ai_pool ET 7 84 = some (6, 3, 0, 0) := by decide +kernel
theorem pl7_88 : ai_pool ET 7 88 = some (1, 33, 1, 0) := by decide +kernel
theorem pl7_91 : ai_pool ET 7 91 = some (1, 39, 1, 0) := by decide +kernel
theorem pl7_94 : ai_pool ET 7 94 = some (1, 35, 0, 0) := by decide +kernel
theorem pl7_98 : ai_pool ET 7 98 = some (1, 36, 1, 0) := by decide +kernel
theorem pl7_104 : ai_pool ET 7 104 = some (1, 42, 1, 0) := by decide +kernel
theorem pl7_108 : ai_pool ET 7 108 = some (1, 37, 1, 0) := by decide +kernel
theorem pl8_3 : ai_pool ET 8 3 = some (4, 0, 0, 0) := by decide +kernel
theorem pl8_11 : ai_pool ET 8 11 = some (0, 8, 0, 1) := by decide +kernel
theorem pl8_15 : ai_pool ET 8 15 = some (0, 8, 1, 1) := by decide +kernel
theorem pl8_18 : ai_pool ET 8 18 = some (0, 8, 2, 1) := by decide +kernel
theorem pl8_21 : ai_pool ET 8 21 = some (0, 8, 3, 1) := by decide +kernel
theorem pl8_24 : ai_pool ET 8 24 = some (0, 8, 4, 0) := by decide +kernel
theorem pl8_28 : ai_pool ET 8 28 = some (0, 8, 5, 0) := by decide +kernel
theorem pl8_31 : ai_pool ET 8 31 = some (5, 0, 0, 0) := by decide +kernel
theorem pl8_37 : ai_pool ET 8 37 = some (1, 157, 3, 0) := by decide +kernel
theorem pl8_41 : ai_pool ET 8 41 = some (0, 7, 8, 0) := by decide +kernel
theorem pl8_46 : ai_pool ET 8 46 = some (1, 18, 0, 0) := by decide +kernel
theorem pl8_49 : ai_pool ET 8 49 = some (1, 161, 3, 0) := by decide +kernel
theorem pl8_53 : ai_pool ET 8 53 = some (1, 158, 3, 0) := by decide +kernel
theorem pl8_56 : ai_pool ET 8 56 = some (0, 7, 4, 0) := by decide +kernel
theorem pl8_59 : ai_pool ET 8 59 = some (1, 159, 1, 1) := by decide +kernel
theorem pl8_63 : ai_pool ET 8 63 = some (1, 33, 1, 0) := by decide +kernel
theorem pl8_66 : ai_pool ET 8 66 = some (1, 156, 3, 0) := by decide +kernel
theorem pl8_69 : ai_pool ET 8 69 = some (1, 50, 1, 0) := by decide +kernel
theorem pl8_72 : ai_pool ET 8 72 = some (1, 160, 1, 1) := by decide +kernel
theorem pl8_75 : ai_pool ET 8 75 = some (1, 162, 2, 0) := by decide +kernel
theorem pl8_79 : ai_pool ET 8 79 = some (1, 163, 3, 0) := by decide +kernel
theorem pl8_82 : ai_pool ET 8 82 = some (1, 148, 1, 0) := by decide +kernel
theorem pl8_86 : ai_pool ET 8 86 = some (1, 41, 1, 0) := by decide +kernel
theorem pl8_89 : ai_pool ET 8 89 = some (1, 38, 2, 0) := by decide +kernel
theorem pl8_93 : ai_pool ET 8 93 = some (0, 3, 0, 2) := by decide +kernel
theorem pl8_99 : ai_pool ET 8 99 = some (0, 1, 7, 0) := by decide +kernel
theorem pl8_104 : ai_pool ET 8 104 = some (1, 166, 3, 1) := by decide +kernel
theorem pl8_108 : ai_pool ET 8 108 = some (1, 167, 2, 0) := by decide +kernel
theorem pl8_112 : ai_pool ET 8 112 = some (1, 168, 3, 0) := by decide +kernel
theorem pl8_116 : ai_pool ET 8 116 = some (0, 3, 9, 0) := by decide +kernel
theorem pl8_119 : ai_pool ET 8 119 = some (1, 69, 1, 0) := by decide +kernel
theorem pl8_122 : ai_pool ET 8 122 = some (1, 73, 1, 0) := by decide +kernel
theorem pl8_125 : ai_pool ET 8 125 = some (1, 79, 2, 0) := by decide +kernel
theorem pl8_129 : ai_pool ET 8 129 = some (1, 43, 2, 0) := by decide +kernel
theorem pl8_132 : ai_pool ET 8 132 = some (0, 3, 1, 2) := by decide +kernel
theorem pl8_135 : ai_pool ET 8 135 = some (1, 169, 2, 0) := by decide +kernel
theorem pl8_138 : ai_pool ET 8 138 = some (0, 3, 2, 2) := by decide +kernel
theorem pl8_141 : ai_pool ET 8 141 = some (1, 63, 1, 0) := by decide +kernel
theorem pl8_145 : ai_pool ET 8 145 = some (1, 142, 1, 0) := by decide +kernel
theorem pl9_3 : ai_pool ET 9 3 = some (4, 0, 0, 0) := by decide +kernel
theorem pl9_9 : ai_pool ET 9 9 = some (0, 9, 0, 1) := by decide +kernel
theorem pl9_15 : ai_pool ET 9 15 = some (0, 9, 1, 1) := by decide +kernel
theorem pl9_18 : ai_pool ET 9 18 = some (0, 9, 2, 1) := by decide +kernel
theorem pl9_21 : ai_pool ET 9 21 = some (0, 9, 3, 0) := by decide +kernel
theorem pl9_25 : ai_pool ET 9 25 = some (0, 9, 4, 0) := by decide +kernel
theorem pl9_28 : ai_pool ET 9 28 = some (0, 9, 5, 0) := by decide +kernel
theorem pl9_31 : ai_pool ET 9 31 = some (0, 9, 6, 0) := by decide +kernel
theorem pl9_34 : ai_pool ET 9 34 = some (6, 1, 0, 0) := by decide +kernel
theorem pl9_40 : ai_pool ET 9 40 = some (1, 123, 3, 0) := by decide +kernel
theorem pl9_44 : ai_pool ET 9 44 = some (1, 124, 0, 0) := by decide +kernel
theorem pl9_48 : ai_pool ET 9 48 = some (1, 125, 1, 0) := by decide +kernel
theorem pl9_52 : ai_pool ET 9 52 = some (1, 126, 3, 0) := by decide +kernel
theorem pl9_55 : ai_pool ET 9 55 = some (1, 128, 2, 0) := by decide +kernel
theorem pl9_59 : ai_pool ET 9 59 = some (1, 131, 2, 0) := by decide +kernel
theorem pl9_63 : ai_pool ET 9 63 = some (1, 127, 0, 0) := by decide +kernel
theorem pl9_67 : ai_pool ET 9 67 = some (1, 129, 2, 1) := by decide +kernel
theorem pl9_70 : ai_pool ET 9 70 = some (1, 130, 2, 1) := by decide +kernel
theorem pl9_73 : ai_pool ET 9 73 = some (1, 132, 1, 1) := by decide +kernel
theorem pl9_77 : ai_pool ET 9 77 = some (5, 0, 0, 0) := by decide +kernel
theorem pl10_3 : ai_pool ET 10 3 = some (4, 0, 0, 0) := by decide +kernel
theorem pl10_9 : ai_pool ET 10 9 = some (0, 10, 0, 0) := by decide +kernel
theorem pl10_15 : ai_pool ET 10 15 = some (0, 10, 1, 0) := by decide +kernel
theorem pl10_18 : ai_pool ET 10 18 = some (0, 7, 4, 0) := by decide +kernel
theorem pl10_24 : ai_pool ET 10 24 = some (0, 6, 0, 2) := by decide +kernel
theorem pl10_30 : ai_pool ET 10 30 = some (0, 6, 1, 2) := by decide +kernel
theorem pl10_34 : ai_pool ET 10 34 = some (1, 31, 3, 0) := by decide +kernel
theorem pl10_38 : ai_pool ET 10 38 = some (1, 50, 1, 0) := by decide +kernel
theorem pl10_42 : ai_pool ET 10 42 = some (1, 39, 1, 0) := by decide +kernel
theorem pl10_46 : ai_pool ET 10 46 = some (0, 7, 8, 0) := by decide +kernel
theorem pl10_49 : ai_pool ET 10 49 = some (1, 32, 3, 1) := by decide +kernel
theorem pl10_52 : ai_pool ET 10 52 = some (1, 40, 3, 1) := by decide +kernel
theorem pl10_55 : ai_pool ET 10 55 = some (1, 44, 3, 1) := by decide +kernel
theorem pl10_58 : ai_pool ET 10 58 = some (1, 45, 2, 1) := by decide +kernel
theorem pl10_62 : ai_pool ET 10 62 = some (1, 47, 2, 1) := by decide +kernel
theorem pl10_65 : ai_pool ET 10 65 = some (1, 48, 2, 0) := by decide +kernel
theorem pl10_68 : ai_pool ET 10 68 = some (1, 49, 2, 0) := by decide +kernel
theorem pl10_71 : ai_pool ET 10 71 = some (1, 33, 1, 0) := by decide +kernel
theorem pl10_74 : ai_pool ET 10 74 = some (0, 1, 7, 0) := by decide +kernel
theorem pl10_79 : ai_pool ET 10 79 = some (1, 18, 0, 0) := by decide +kernel
theorem pl10_82 : ai_pool ET 10 82 = some (1, 34, 2, 1) := by decide +kernel
theorem pl10_85 : ai_pool ET 10 85 = some (0, 7, 7, 0) := by decide +kernel
theorem pl10_89 : ai_pool ET 10 89 = some (1, 38, 2, 0) := by decide +kernel
theorem pl10_93 : ai_pool ET 10 93 = some (0, 1, 0, 2) := by decide +kernel
theorem pl10_97 : ai_pool ET 10 97 = some (0, 1, 1, 2) := by decide +kernel
theorem pl10_101 : ai_pool ET 10 101 = some (0, 1, 2, 2) := by decide +kernel
theorem pl10_104 : ai_pool ET 10 104 = some (0, 3, 1, 2) := by decide +kernel
theorem pl10_109 : ai_pool ET 10 109 = some (0, 3, 2, 2) := by decide +kernel
theorem pl10_112 : ai_pool ET 10 112 = some (1, 35, 0, 0) := by decide +kernel
theorem pl10_116 : ai_pool ET 10 116 = some (1, 36, 1, 0) := by decide +kernel
theorem pl10_120 : ai_pool ET 10 120 = some (1, 37, 1, 0) := by decide +kernel
theorem pl10_123 : ai_pool ET 10 123 = some (1, 41, 1, 0) := by decide +kernel
theorem pl10_127 : ai_pool ET 10 127 = some (1, 42, 1, 0) := by decide +kernel
theorem pl10_130 : ai_pool ET 10 130 = some (1, 43, 2, 0) := by decide +kernel
theorem pl10_133 : ai_pool ET 10 133 = some (0, 3, 5, 2) := by decide +kernel
theorem pl10_136 : ai_pool ET 10 136 = some (0, 1, 8, 0) := by decide +kernel
theorem pl10_139 : ai_pool ET 10 139 = some (0, 1, 3, 2) := by decide +kernel
theorem pl10_142 : ai_pool ET 10 142 = some (0, 1, 4, 2) := by decide +kernel
theorem pl10_145 : ai_pool ET 10 145 = some (0, 1, 5, 2) := by decide +kernel
theorem pl10_148 : ai_pool ET 10 148 = some (0, 1, 6, 2) := by decide +kernel
theorem pl10_151 : ai_pool ET 10 151 = some (0, 3, 7, 2) := by decide +kernel
theorem pl10_154 : ai_pool ET 10 154 = some (0, 1, 9, 0) := by decide +kernel
theorem pl10_157 : ai_pool ET 10 157 = some (1, 46, 3, 1) := by decide +kernel
theorem pl10_161 : ai_pool ET 10 161 = some (0, 1, 10, 0) := by decide +kernel
theorem pl10_164 : ai_pool ET 10 164 = some (0, 1, 11, 0) := by decide +kernel
theorem pl10_167 : ai_pool ET 10 167 = some (0, 1, 12, 0) := by decide +kernel
theorem pl11_3 : ai_pool ET 11 3 = some (4, 0, 0, 0) := by decide +kernel
theorem pl11_9 : ai_pool ET 11 9 = some (0, 11, 0, 1) := by decide +kernel
theorem pl11_13 : ai_pool ET 11 13 = some (2, 7, 99, 0) := by decide +kernel
theorem pl11_15 : ai_pool ET 11 15 = some (1, 1, 0, 4) := by decide +kernel
theorem pl11_16 : ai_pool ET 11 16 = some (0, 11, 1, 1) := by decide +kernel
theorem pl11_20 : ai_pool ET 11 20 = some (2, 10, 99, 0) := by decide +kernel
theorem pl11_22 : ai_pool ET 11 22 = some (1, 2, 0, 4) := by decide +kernel
theorem pl11_23 : ai_pool ET 11 23 = some (0, 11, 2, 1) := by decide +kernel
theorem pl11_27 : ai_pool ET 11 27 = some (2, 6, 4, 0) := by decide +kernel
theorem pl11_29 : ai_pool ET 11 29 = some (2, 1, 99, 0) := by decide +kernel
theorem pl11_31 : ai_pool ET 11 31 = some (1, 3, 0, 4) := by decide +kernel
theorem pl11_32 : ai_pool ET 11 32 = some (1, 4, 1, 2) := by decide +kernel
theorem pl11_35 : ai_pool ET 11 35 = some (0, 11, 4, 1) := by decide +kernel
theorem pl11_39 : ai_pool ET 11 39 = some (0, 11, 5, 1) := by decide +kernel
theorem pl11_43 : ai_pool ET 11 43 = some (0, 11, 6, 1) := by decide +kernel
theorem pl11_47 : ai_pool ET 11 47 = some (2, 0, 99, 0) := by decide +kernel
theorem pl11_49 : ai_pool ET 11 49 = some (1, 7, 0, 4) := by decide +kernel
theorem pl11_50 : ai_pool ET 11 50 = some (0, 11, 9, 1) := by decide +kernel
theorem pl11_54 : ai_pool ET 11 54 = some (2, 2, 99, 0) := by decide +kernel
theorem pl11_56 : ai_pool ET 11 56 = some (1, 8, 0, 4) := by decide +kernel
theorem pl11_57 : ai_pool ET 11 57 = some (0, 11, 10, 1) := by decide +kernel
theorem pl11_61 : ai_pool ET 11 61 = some (2, 4, 99, 0) := by decide +kernel
theorem pl11_63 : ai_pool ET 11 63 = some (1, 9, 0, 4) := by decide +kernel
theorem pl11_64 : ai_pool ET 11 64 = some (0, 11, 11, 1) := by decide +kernel
theorem pl11_68 : ai_pool ET 11 68 = some (2, 9, 99, 0) := by decide +kernel
theorem pl11_70 : ai_pool ET 11 70 = some (1, 10, 0, 4) := by decide +kernel
theorem pl11_71 : ai_pool ET 11 71 = some (0, 11, 12, 1) := by decide +kernel
theorem pl11_75 : ai_pool ET 11 75 = some (0, 11, 13, 1) := by decide +kernel
theorem pl11_79 : ai_pool ET 11 79 = some (0, 11, 14, 0) := by decide +kernel
theorem pl11_83 : ai_pool ET 11 83 = some (0, 11, 15, 0) := by decide +kernel
theorem pl11_86 : ai_pool ET 11 86 = some (0, 11, 16, 0) := by decide +kernel
theorem pl11_89 : ai_pool ET 11 89 = some (0, 11, 17, 0) := by decide +kernel
theorem pl11_92 : ai_pool ET 11 92 = some (0, 11, 3, 1) := by decide +kernel
theorem pl11_95 : ai_pool ET 11 95 = some (2, 3, 5, 0) := by decide +kernel
theorem pl11_97 : ai_pool ET 11 97 = some (1, 6, 1, 2) := by decide +kernel
theorem pl11_98 : ai_pool ET 11 98 = some (0, 11, 7, 1) := by decide +kernel
theorem pl11_102 : ai_pool ET 11 102 = some (2, 5, 99, 0) := by decide +kernel
theorem pl11_104 : ai_pool ET 11 104 = some (1, 11, 1, 2) := by decide +kernel
theorem pl11_105 : ai_pool ET 11 105 = some (0, 11, 8, 1) := by decide +kernel
theorem pl11_109 : ai_pool ET 11 109 = some (1, 13, 1, 0) := by decide +kernel
theorem pl11_113 : ai_pool ET 11 113 = some (1, 16, 1, 0) := by decide +kernel
theorem pl11_116 : ai_pool ET 11 116 = some (1, 26, 0, 0) := by decide +kernel
theorem pl11_119 : ai_pool ET 11 119 = some (1, 30, 2, 0) := by decide +kernel
theorem pl11_123 : ai_pool ET 11 123 = some (0, 7, 9, 0) := by decide +kernel
theorem pl11_126 : ai_pool ET 11 126 = some (0, 7, 5, 0) := by decide +kernel
theorem pl11_129 : ai_pool ET 11 129 = some (1, 51, 1, 0) := by decide +kernel
theorem pl11_133 : ai_pool ET 11 133 = some (1, 55, 0, 0) := by decide +kernel
theorem pl11_134 : ai_pool ET 11 134 = some (1, 17, 3, 0) := by decide +kernel
theorem pl11_138 : ai_pool ET 11 138 = some (0, 6, 0, 2) := by decide +kernel
theorem pl11_142 : ai_pool ET 11 142 = some (1, 59, 1, 0) := by decide +kernel
theorem pl11_146 : ai_pool ET 11 146 = some (9, 0, 0, 0) := by decide +kernel
theorem pl11_153 : ai_pool ET 11 153 = some (0, 6, 1, 2) := by decide +kernel
theorem pl11_156 : ai_pool ET 11 156 = some (0, 3, 1, 2) := by decide +kernel
theorem pl11_159 : ai_pool ET 11 159 = some (0, 3, 2, 2) := by decide +kernel
theorem pl11_162 : ai_pool ET 11 162 = some (0, 1, 1, 2) := by decide +kernel
theorem pl11_165 : ai_pool ET 11 165 = some (0, 1, 2, 2) := by decide +kernel
theorem pl11_168 : ai_pool ET 11 168 = some (0, 1, 9, 0) := by decide +kernel
theorem pl11_171 : ai_pool ET 11 171 = some (0, 1, 10, 0) := by decide +kernel
theorem pl11_174 : ai_pool ET 11 174 = some (0, 3, 9, 0) := by decide +kernel
theorem pl11_177 : ai_pool ET 11 177 = some (0, 3, 3, 2) := by decide +kernel
theorem pl11_180 : ai_pool ET 11 180 = some (0, 3, 4, 2) := by decide +kernel
theorem pl11_183 : ai_pool ET 11 183 = some (1, 63, 1, 0) := by decide +kernel
theorem pl11_187 : ai_pool ET 11 187 = some (1, 142, 1, 0) := by decide +kernel
theorem pl11_192 : ai_pool ET 11 192 = some (1, 58, 2, 0) := by decide +kernel
theorem pl11_196 : ai_pool ET 11 196 = some (1, 43, 2, 0) := by decide +kernel
theorem pl11_200 : ai_pool ET 11 200 = some (1, 77, 1, 0) := by decide +kernel
theorem pl11_205 : ai_pool ET 11 205 = some (0, 1, 4, 2) := by decide +kernel
theorem pl11_208 : ai_pool ET 11 208 = some (1, 81, 1, 0) := by decide +kernel
theorem pl11_211 : ai_pool ET 11 211 = some (0, 3, 6, 2) := by decide +kernel
theorem pl11_214 : ai_pool ET 11 214 = some (0, 3, 7, 2) := by decide +kernel
theorem pl11_219 : ai_pool ET 11 219 = some (0, 3, 10, 0) := by decide +kernel
theorem pl11_222 : ai_pool ET 11 222 = some (1, 61, 0, 0) := by decide +kernel
theorem pl11_226 : ai_pool ET 11 226 = some (1, 62, 0, 0) := by decide +kernel
theorem pl11_229 : ai_pool ET 11 229 = some (0, 3, 11, 0) := by decide +kernel
theorem pl11_232 : ai_pool ET 11 232 = some (1, 64, 1, 1) := by decide +kernel
theorem pl11_237 : ai_pool ET 11 237 = some (1, 65, 0, 0) := by decide +kernel
theorem pl11_240 : ai_pool ET 11 240 = some (0, 3, 12, 0) := by decide +kernel
theorem pl11_243 : ai_pool ET 11 243 = some (0, 3, 13, 0) := by decide +kernel
theorem pl11_246 : ai_pool ET 11 246 = some (1, 67, 1, 1) := by decide +kernel
theorem pl11_249 : ai_pool ET 11 249 = some (1, 68, 3, 0) := by decide +kernel
theorem pl11_253 : ai_pool ET 11 253 = some (1, 71, 1, 0) := by decide +kernel
theorem pl11_257 : ai_pool ET 11 257 = some (1, 72, 3, 0) := by decide +kernel
theorem pl11_261 : ai_pool ET 11 261 = some (1, 78, 3, 0) := by decide +kernel
theorem pl11_264 : ai_pool ET 11 264 = some (1, 80, 3, 0) := by decide +kernel
theorem pl11_267 : ai_pool ET 11 267 = some (1, 84, 1, 0) := by decide +kernel
theorem pl11_270 : ai_pool ET 11 270 = some (1, 85, 1, 0) := by decide +kernel
theorem pl11_273 : ai_pool ET 11 273 = some (1, 53, 1, 0) := by decide +kernel
theorem pl11_275 : ai_pool ET 11 275 = some (1, 89, 0, 0) := by decide +kernel
theorem pl11_278 : ai_pool ET 11 278 = some (1, 95, 1, 0) := by decide +kernel
theorem pl11_282 : ai_pool ET 11 282 = some (1, 90, 0, 0) := by decide +kernel
theorem pl11_285 : ai_pool ET 11 285 = some (0, 3, 8, 2) := by decide +kernel
theorem pl11_288 : ai_pool ET 11 288 = some (5, 0, 0, 0) := by decide +kernel
theorem pl11_294 : ai_pool ET 11 294 = some (0, 1, 7, 0) := by decide +kernel
theorem pl11_297 : ai_pool ET 11 297 = some (1, 87, 1, 0) := by decide +kernel
theorem pl11_300 : ai_pool ET 11 300 = some (1, 100, 1, 0) := by decide +kernel
theorem pl11_303 : ai_pool ET 11 303 = some (0, 2, 3, 0) := by decide +kernel
theorem pl11_304 : ai_pool ET 11 304 = some (0, 2, 1, 2) := by decide +kernel
theorem pl11_307 : ai_pool ET 11 307 = some (1, 106, 2, 0) := by decide +kernel
theorem pl11_311 : ai_pool ET 11 311 = some (0, 4, 3, 0) := by decide +kernel
theorem pl11_312 : ai_pool ET 11 312 = some (0, 4, 0, 2) := by decide +kernel
theorem pl11_315 : ai_pool ET 11 315 = some (0, 4, 1, 2) := by decide +kernel
theorem pl11_318 : ai_pool ET 11 318 = some (1, 113, 3, 1) := by decide +kernel
theorem pl11_324 : ai_pool ET 11 324 = some (1, 115, 4, 1) := by decide +kernel
theorem pl11_328 : ai_pool ET 11 328 = some (1, 114, 2, 1) := by decide +kernel
theorem pl11_332 : ai_pool ET 11 332 = some (1, 176, 2, 1) := by decide +kernel
theorem pl11_336 : ai_pool ET 11 336 = some (8, 9, 0, 0) := by decide +kernel
theorem pl11_338 : ai_pool ET 11 338 = some (1, 74, 2, 0) := by decide +kernel
theorem pl11_341 : ai_pool ET 11 341 = some (6, 0, 0, 0) := by decide +kernel
theorem pl11_346 : ai_pool ET 11 346 = some (1, 119, 2, 0) := by decide +kernel
theorem pl11_349 : ai_pool ET 11 349 = some (0, 1, 8, 0) := by decide +kernel
theorem pl11_352 : ai_pool ET 11 352 = some (1, 122, 2, 0) := by decide +kernel
theorem pl11_356 : ai_pool ET 11 356 = some (1, 134, 2, 0) := by decide +kernel
theorem pl11_359 : ai_pool ET 11 359 = some (1, 136, 3, 0) := by decide +kernel
theorem pl11_362 : ai_pool ET 11 362 = some (1, 141, 2, 0) := by decide +kernel
theorem pl11_365 : ai_pool ET 11 365 = some (1, 144, 2, 0) := by decide +kernel
theorem pl11_369 : ai_pool ET 11 369 = some (1, 149, 1, 0) := by decide +kernel
theorem pl11_372 : ai_pool ET 11 372 = some (1, 153, 1, 0) := by decide +kernel
theorem pl11_375 : ai_pool ET 11 375 = some (0, 6, 2, 2) := by decide +kernel
theorem pl11_379 : ai_pool ET 11 379 = some (1, 29, 0, 0) := by decide +kernel
theorem pl11_382 : ai_pool ET 11 382 = some (1, 156, 3, 3) := by decide +kernel
theorem pl11_386 : ai_pool ET 11 386 = some (1, 50, 1, 0) := by decide +kernel
theorem pl11_389 : ai_pool ET 11 389 = some (1, 54, 1, 0) := by decide +kernel
theorem pl11_392 : ai_pool ET 11 392 = some (0, 8, 5, 0) := by decide +kernel
theorem pl11_395 : ai_pool ET 11 395 = some (1, 165, 1, 0) := by decide +kernel
theorem pl11_398 : ai_pool ET 11 398 = some (0, 1, 11, 0) := by decide +kernel
theorem pl11_401 : ai_pool ET 11 401 = some (0, 1, 12, 0) := by decide +kernel
theorem pl12_1 : ai_pool ET 12 1 = some (0, 12, 0, 0) := by decide +kernel
theorem pl12_7 : ai_pool ET 12 7 = some (0, 12, 2, 0) := by decide +kernel
theorem pl12_10 : ai_pool ET 12 10 = some (1, 179, 1, 0) := by decide +kernel
theorem pl12_14 : ai_pool ET 12 14 = some (0, 12, 1, 1) := by decide +kernel
theorem pl12_18 : ai_pool ET 12 18 = some (0, 12, 3, 0) := by decide +kernel
theorem pl12_21 : ai_pool ET 12 21 = some (0, 12, 4, 0) := by decide +kernel
theorem pl12_24 : ai_pool ET 12 24 = some (0, 12, 5, 0) := by decide +kernel
theorem pl12_27 : ai_pool ET 12 27 = some (4, 0, 0, 0) := by decide +kernel
theorem pl12_33 : ai_pool ET 12 33 = some (0, 12, 6, 1) := by decide +kernel
theorem pl12_37 : ai_pool ET 12 37 = some (0, 12, 7, 1) := by decide +kernel
theorem pl12_40 : ai_pool ET 12 40 = some (0, 12, 8, 1) := by decide +kernel
theorem pl12_43 : ai_pool ET 12 43 = some (0, 12, 9, 1) := by decide +kernel
theorem pl12_47 : ai_pool ET 12 47 = some (0, 12, 10, 1) := by decide +kernel
theorem pl12_50 : ai_pool ET 12 50 = some (0, 12, 22, 1) := by decide +kernel
theorem pl12_53 : ai_pool ET 12 53 = some (0, 12, 23, 1) := by decide +kernel
theorem pl12_56 : ai_pool ET 12 56 = some (0, 12, 26, 1) := by decide +kernel
theorem pl12_59 : ai_pool ET 12 59 = some (0, 12, 27, 1) := by decide +kernel
theorem pl12_62 : ai_pool ET 12 62 = some (0, 12, 31, 1) := by decide +kernel
theorem pl12_65 : ai_pool ET 12 65 = some (0, 12, 32, 1) := by decide +kernel
theorem pl12_68 : ai_pool ET 12 68 = some (0, 12, 33, 1) := by decide +kernel
theorem pl12_71 : ai_pool ET 12 71 = some (0, 12, 34, 0) := by decide +kernel
theorem pl12_74 : ai_pool ET 12 74 = some (0, 12, 35, 1) := by decide +kernel
theorem pl12_77 : ai_pool ET 12 77 = some (0, 12, 36, 1) := by decide +kernel
theorem pl12_80 : ai_pool ET 12 80 = some (0, 12, 37, 1) := by decide +kernel
theorem pl12_83 : ai_pool ET 12 83 = some (0, 12, 38, 0) := by decide +kernel
theorem pl12_86 : ai_pool ET 12 86 = some (0, 12, 39, 1) := by decide +kernel
theorem pl12_89 : ai_pool ET 12 89 = some (0, 12, 40, 1) := by decide +kernel
theorem pl12_92 : ai_pool ET 12 92 = some (0, 12, 41, 1) := by decide +kernel
theorem pl12_95 : ai_pool ET 12 95 = some (0, 12, 42, 1) := by decide +kernel
theorem pl12_98 : ai_pool ET 12 98 = some (0, 12, 43, 1) := by decide +kernel
theorem pl12_101 : ai_pool ET 12 101 = some (0, 12, 44, 0) := by decide +kernel
theorem pl12_104 : ai_pool ET 12 104 = some (0, 12, 47, 1) := by decide +kernel
theorem pl12_107 : ai_pool ET 12 107 = some (0, 12, 48, 1) := by decide +kernel
theorem pl12_110 : ai_pool ET 12 110 = some (0, 12, 49, 1) := by decide +kernel
theorem pl12_113 : ai_pool ET 12 113 = some (0, 12, 53, 1) := by decide +kernel
theorem pl12_116 : ai_pool ET 12 116 = some (0, 12, 55, 1) := by decide +kernel
theorem pl12_119 : ai_pool ET 12 119 = some (0, 12, 61, 1) := by decide +kernel
theorem pl12_123 : ai_pool ET 12 123 = some (0, 12, 62, 1) := by decide +kernel
theorem pl12_126 : ai_pool ET 12 126 = some (0, 12, 63, 1) := by decide +kernel
theorem pl12_129 : ai_pool ET 12 129 = some (0, 12, 64, 1) := by decide +kernel
theorem pl12_132 : ai_pool ET 12 132 = some (8, 123581014175598, 0, 0) := by decide +kernel
theorem pl12_134 : ai_pool ET 12 134 = some (8, 1870095731, 0, 0) := by decide +kernel
theorem pl12_136 : ai_pool ET 12 136 = some (8, 495874699897, 0, 0) := by decide +kernel
theorem pl12_138 : ai_pool ET 12 138 = some (8, 1718773093, 0, 0) := by decide +kernel
theorem pl12_140 : ai_pool ET 12 140 = some (8, 439721161573, 0, 0) := by decide +kernel
theorem pl12_142 : ai_pool ET 12 142 = some (8, 1734960756, 0, 0) := by decide +kernel
theorem pl12_144 : ai_pool ET 12 144 = some (8, 1920297326, 0, 0) := by decide +kernel
theorem pl12_146 : ai_pool ET 12 146 = some (8, 448377483891, 0, 0) := by decide +kernel
theorem pl12_148 : ai_pool ET 12 148 = some (8, 499917810803, 0, 0) := by decide +kernel
theorem pl12_150 : ai_pool ET 12 150 = some (8, 6578553, 0, 0) := by decide +kernel
theorem pl12_152 : ai_pool ET 12 152 = some (8, 126943972911973, 0, 0) := by decide +kernel
theorem pl12_154 : ai_pool ET 12 154 = some (8, 28530, 0, 0) := by decide +kernel
theorem pl12_156 : ai_pool ET 12 156 = some (8, 6385252, 0, 0) := by decide +kernel
theorem pl12_158 : ai_pool ET 12 158 = some (8, 7237492, 0, 0) := by decide +kernel
theorem pl12_160 : ai_pool ET 12 160 = some (8, 125848605582692, 0, 0) := by decide +kernel
theorem pl12_162 : ai_pool ET 12 162 = some (8, 461414299507, 0, 0) := by decide +kernel
theorem pl12_164 : ai_pool ET 12 164 = some (8, 1852138852, 0, 0) := by decide +kernel
theorem pl12_166 : ai_pool ET 12 166 = some (8, 6644082, 0, 0) := by decide +kernel
theorem pl12_168 : ai_pool ET 12 168 = some (8, 1684365940, 0, 0) := by decide +kernel
theorem pl12_170 : ai_pool ET 12 170 = some (8, 109342978500980, 0, 0) := by decide +kernel
theorem pl12_172 : ai_pool ET 12 172 = some (8, 482854658917, 0, 0) := by decide +kernel
theorem pl12_174 : ai_pool ET 12 174 = some (1, 185, 0, 0) := by decide +kernel
theorem pl12_178 : ai_pool ET 12 178 = some (0, 12, 12, 0) := by decide +kernel
theorem pl12_181 : ai_pool ET 12 181 = some (0, 12, 13, 0) := by decide +kernel
theorem pl12_184 : ai_pool ET 12 184 = some (0, 12, 11, 0) := by decide +kernel
theorem pl12_187 : ai_pool ET 12 187 = some (1, 186, 1, 1) := by decide +kernel
theorem pl12_191 : ai_pool ET 12 191 = some (1, 187, 1, 1) := by decide +kernel
theorem pl12_194 : ai_pool ET 12 194 = some (0, 12, 14, 0) := by decide +kernel
theorem pl12_197 : ai_pool ET 12 197 = some (0, 12, 17, 0) := by decide +kernel
theorem pl12_201 : ai_pool ET 12 201 = some (0, 12, 15, 0) := by decide +kernel
theorem pl12_204 : ai_pool ET 12 204 = some (0, 12, 16, 0) := by decide +kernel
theorem pl12_207 : ai_pool ET 12 207 = some (1, 198, 1, 0) := by decide +kernel
theorem pl12_210 : ai_pool ET 12 210 = some (1, 190, 1, 0) := by decide +kernel
theorem pl12_213 : ai_pool ET 12 213 = some (1, 184, 0, 0) := by decide +kernel
theorem pl12_216 : ai_pool ET 12 216 = some (1, 195, 3, 1) := by decide +kernel
theorem pl12_220 : ai_pool ET 12 220 = some (0, 12, 18, 0) := by decide +kernel
theorem pl12_223 : ai_pool ET 12 223 = some (1, 192, 0, 0) := by decide +kernel
theorem pl12_227 : ai_pool ET 12 227 = some (1, 193, 2, 0) := by decide +kernel
theorem pl12_231 : ai_pool ET 12 231 = some (1, 189, 1, 0) := by decide +kernel
theorem pl12_235 : ai_pool ET 12 235 = some (1, 191, 1, 0) := by decide +kernel
theorem pl12_238 : ai_pool ET 12 238 = some (1, 194, 2, 0) := by decide +kernel
theorem pl12_242 : ai_pool ET 12 242 = some (1, 196, 0, 0) := by decide +kernel
theorem pl12_245 : ai_pool ET 12 245 = some (0, 12, 20, 0) := by decide +kernel
theorem pl12_249 : ai_pool ET 12 249 = some (0, 12, 21, 0) := by decide +kernel
theorem pl12_252 : ai_pool ET 12 252 = some (1, 183, 1, 0) := by decide +kernel
theorem pl12_255 : ai_pool ET 12 255 = some (0, 12, 19, 0) := by decide +kernel
theorem pl12_258 : ai_pool ET 12 258 = some (1, 188, 0, 0) := by decide +kernel
theorem pl12_261 : ai_pool ET 12 261 = some (1, 197, 1, 0) := by decide +kernel
theorem pl12_264 : ai_pool ET 12 264 = some (0, 12, 28, 0) := by decide +kernel
theorem pl12_267 : ai_pool ET 12 267 = some (1, 201, 1, 0) := by decide +kernel
theorem pl12_270 : ai_pool ET 12 270 = some (1, 202, 1, 0) := by decide +kernel
theorem pl12_274 : ai_pool ET 12 274 = some (1, 203, 1, 0) := by decide +kernel
theorem pl12_278 : ai_pool ET 12 278 = some (1, 204, 1, 0) := by decide +kernel
theorem pl12_281 : ai_pool ET 12 281 = some (1, 207, 1, 0) := by decide +kernel
theorem pl12_284 : ai_pool ET 12 284 = some (1, 208, 1, 0) := by decide +kernel
theorem pl12_287 : ai_pool ET 12 287 = some (1, 224, 2, 1) := by decide +kernel
theorem pl12_290 : ai_pool ET 12 290 = some (1, 222, 2, 0) := by decide +kernel
theorem pl12_293 : ai_pool ET 12 293 = some (1, 223, 3, 0) := by decide +kernel
theorem pl12_297 : ai_pool ET 12 297 = some (1, 227, 2, 1) := by decide +kernel
theorem pl12_300 : ai_pool ET 12 300 = some (1, 231, 1, 0) := by decide +kernel
theorem pl12_303 : ai_pool ET 12 303 = some (1, 213, 2, 0) := by decide +kernel
theorem pl12_306 : ai_pool ET 12 306 = some (1, 212, 2, 0) := by decide +kernel
theorem pl12_309 : ai_pool ET 12 309 = some (1, 211, 0, 0) := by decide +kernel
theorem pl12_312 : ai_pool ET 12 312 = some (0, 12, 24, 0) := by decide +kernel
theorem pl12_315 : ai_pool ET 12 315 = some (0, 12, 25, 0) := by decide +kernel
theorem pl12_318 : ai_pool ET 12 318 = some (7, 1000000000, 0, 0) := by decide +kernel
theorem pl12_319 : ai_pool ET 12 319 = some (1, 217, 3, 0) := by decide +kernel
theorem pl12_322 : ai_pool ET 12 322 = some (1, 218, 3, 0) := by decide +kernel
theorem pl12_326 : ai_pool ET 12 326 = some (1, 220, 0, 0) := by decide +kernel
theorem pl12_329 : ai_pool ET 12 329 = some (1, 221, 3, 0) := by decide +kernel
theorem pl12_332 : ai_pool ET 12 332 = some (1, 226, 3, 0) := by decide +kernel
theorem pl12_335 : ai_pool ET 12 335 = some (1, 228, 3, 0) := by decide +kernel
theorem pl12_338 : ai_pool ET 12 338 = some (1, 230, 0, 0) := by decide +kernel
theorem pl12_341 : ai_pool ET 12 341 = some (0, 12, 29, 0) := by decide +kernel
theorem pl12_344 : ai_pool ET 12 344 = some (0, 12, 30, 0) := by decide +kernel
theorem pl12_347 : ai_pool ET 12 347 = some (1, 233, 0, 0) := by decide +kernel
theorem pl12_350 : ai_pool ET 12 350 = some (1, 237, 1, 0) := by decide +kernel
theorem pl12_353 : ai_pool ET 12 353 = some (1, 238, 1, 0) := by decide +kernel
theorem pl12_356 : ai_pool ET 12 356 = some (1, 239, 2, 0) := by decide +kernel
theorem pl12_360 : ai_pool ET 12 360 = some (1, 240, 2, 0) := by decide +kernel
theorem pl12_363 : ai_pool ET 12 363 = some (1, 248, 2, 1) := by decide +kernel
theorem pl12_367 : ai_pool ET 12 367 = some (1, 246, 3, 1) := by decide +kernel
theorem pl12_370 : ai_pool ET 12 370 = some (1, 247, 4, 1) := by decide +kernel
theorem pl12_374 : ai_pool ET 12 374 = some (1, 249, 2, 1) := by decide +kernel
theorem pl12_378 : ai_pool ET 12 378 = some (8, 9, 0, 0) := by decide +kernel
theorem pl12_380 : ai_pool ET 12 380 = some (1, 254, 1, 0) := by decide +kernel
theorem pl12_383 : ai_pool ET 12 383 = some (1, 259, 1, 0) := by decide +kernel
theorem pl12_386 : ai_pool ET 12 386 = some (0, 12, 46, 0) := by decide +kernel
theorem pl12_389 : ai_pool ET 12 389 = some (1, 257, 1, 0) := by decide +kernel
theorem pl12_392 : ai_pool ET 12 392 = some (0, 12, 45, 0) := by decide +kernel
theorem pl12_395 : ai_pool ET 12 395 = some (1, 258, 5, 0) := by decide +kernel
theorem pl12_399 : ai_pool ET 12 399 = some (1, 260, 2, 0) := by decide +kernel
theorem pl12_402 : ai_pool ET 12 402 = some (1, 261, 2, 0) := by decide +kernel
theorem pl12_405 : ai_pool ET 12 405 = some (0, 12, 50, 0) := by decide +kernel
theorem pl12_408 : ai_pool ET 12 408 = some (7, 1103515245, 0, 0) := by decide +kernel
theorem pl12_409 : ai_pool ET 12 409 = some (1, 265, 1, 0) := by decide +kernel
theorem pl12_412 : ai_pool ET 12 412 = some (1, 264, 3, 0) := by decide +kernel
theorem pl12_415 : ai_pool ET 12 415 = some (1, 267, 0, 0) := by decide +kernel
theorem pl12_418 : ai_pool ET 12 418 = some (1, 268, 0, 0) := by decide +kernel
theorem pl12_421 : ai_pool ET 12 421 = some (1, 270, 2, 0) := by decide +kernel
theorem pl12_424 : ai_pool ET 12 424 = some (0, 12, 51, 0) := by decide +kernel
theorem pl12_427 : ai_pool ET 12 427 = some (1, 273, 2, 0) := by decide +kernel
theorem pl12_430 : ai_pool ET 12 430 = some (0, 12, 52, 0) := by decide +kernel
theorem pl12_433 : ai_pool ET 12 433 = some (1, 272, 0, 0) := by decide +kernel
theorem pl12_436 : ai_pool ET 12 436 = some (1, 274, 1, 0) := by decide +kernel
theorem pl12_439 : ai_pool ET 12 439 = some (0, 12, 54, 0) := by decide +kernel
theorem pl12_442 : ai_pool ET 12 442 = some (0, 12, 56, 0) := by decide +kernel
theorem pl12_445 : ai_pool ET 12 445 = some (0, 12, 58, 0) := by decide +kernel
theorem pl12_448 : ai_pool ET 12 448 = some (1, 278, 3, 0) := by decide +kernel
theorem pl12_451 : ai_pool ET 12 451 = some (0, 12, 59, 0) := by decide +kernel
theorem pl12_454 : ai_pool ET 12 454 = some (1, 282, 0, 0) := by decide +kernel
theorem pl12_457 : ai_pool ET 12 457 = some (0, 12, 57, 0) := by decide +kernel
theorem pl12_460 : ai_pool ET 12 460 = some (0, 12, 60, 0) := by decide +kernel
theorem pl12_463 : ai_pool ET 12 463 = some (1, 277, 0, 0) := by decide +kernel
theorem pl12_466 : ai_pool ET 12 466 = some (1, 279, 1, 0) := by decide +kernel
theorem pl12_469 : ai_pool ET 12 469 = some (1, 280, 0, 0) := by decide +kernel
theorem pl12_472 : ai_pool ET 12 472 = some (1, 281, 0, 0) := by decide +kernel
theorem pl12_475 : ai_pool ET 12 475 = some (1, 285, 4, 0) := by decide +kernel
theorem pl12_479 : ai_pool ET 12 479 = some (1, 284, 1, 0) := by decide +kernel
theorem pl13_7 : ai_pool ET 13 7 = some (1, 173, 2, 0) := by decide +kernel
theorem pl13_8 : ai_pool ET 13 8 = some (2, 11, 99, 0) := by decide +kernel
theorem pl13_13 : ai_pool ET 13 13 = some (9, 0, 0, 0) := by decide +kernel
theorem pl13_15 : ai_pool ET 13 15 = some (1, 174, 2, 0) := by decide +kernel
theorem pl13_18 : ai_pool ET 13 18 = some (1, 175, 5, 0) := by decide +kernel
theorem pl13_22 : ai_pool ET 13 22 = some (1, 0, 0, 2) := by decide +kernel
theorem pl13_23 : ai_pool ET 13 23 = some (2, 12, 99, 0) := by decide +kernel
theorem pl13_25 : ai_pool ET 13 25 = some (1, 181, 0, 2) := by decide +kernel
theorem pl13_26 : ai_pool ET 13 26 = some (1, 12, 5, 0) := by decide +kernel
theorem pl13_30 : ai_pool ET 13 30 = some (1, 178, 5, 0) := by decide +kernel
theorem pl13_31 : ai_pool ET 13 31 = some (1, 14, 1, 0) := by decide +kernel
theorem pl13_35 : ai_pool ET 13 35 = some (1, 180, 1, 0) := by decide +kernel
theorem pl13_36 : ai_pool ET 13 36 = some (1, 15, 0, 0) := by decide +kernel
theorem pl13_40 : ai_pool ET 13 40 = some (1, 182, 0, 0) := by decide +kernel
theorem pl13_41 : ai_pool ET 13 41 = some (1, 56, 0, 0) := by decide +kernel
theorem pl13_44 : ai_pool ET 13 44 = some (1, 199, 0, 0) := by decide +kernel
theorem pl13_45 : ai_pool ET 13 45 = some (9, 0, 0, 0) := by decide +kernel
theorem pl13_50 : ai_pool ET 13 50 = some (1, 200, 2, 0) := by decide +kernel
theorem pl13_51 : ai_pool ET 13 51 = some (1, 177, 0, 0) := by decide +kernel
theorem pl13_54 : ai_pool ET 13 54 = some (1, 57, 2, 0) := by decide +kernel
theorem pl13_57 : ai_pool ET 13 57 = some (1, 205, 2, 0) := by decide +kernel
theorem pl13_58 : ai_pool ET 13 58 = some (9, 0, 0, 0) := by decide +kernel
theorem pl13_60 : ai_pool ET 13 60 = some (1, 206, 2, 0) := by decide +kernel
theorem pl13_61 : ai_pool ET 13 61 = some (1, 60, 1, 0) := by decide +kernel
theorem pl13_65 : ai_pool ET 13 65 = some (1, 209, 1, 0) := by decide +kernel
theorem pl13_66 : ai_pool ET 13 66 = some (1, 66, 3, 0) := by decide +kernel
theorem pl13_70 : ai_pool ET 13 70 = some (1, 216, 3, 0) := by decide +kernel
theorem pl13_71 : ai_pool ET 13 71 = some (1, 70, 3, 0) := by decide +kernel
theorem pl13_74 : ai_pool ET 13 74 = some (1, 219, 3, 0) := by decide +kernel
theorem pl13_75 : ai_pool ET 13 75 = some (1, 76, 3, 0) := by decide +kernel
theorem pl13_78 : ai_pool ET 13 78 = some (1, 225, 3, 0) := by decide +kernel
theorem pl13_79 : ai_pool ET 13 79 = some (1, 83, 1, 0) := by decide +kernel
theorem pl13_82 : ai_pool ET 13 82 = some (1, 229, 1, 0) := by decide +kernel
theorem pl13_83 : ai_pool ET 13 83 = some (1, 88, 0, 0) := by decide +kernel
theorem pl13_86 : ai_pool ET 13 86 = some (1, 232, 0, 0) := by decide +kernel
theorem pl13_87 : ai_pool ET 13 87 = some (1, 93, 0, 0) := by decide +kernel
theorem pl13_90 : ai_pool ET 13 90 = some (1, 234, 0, 0) := by decide +kernel
theorem pl13_91 : ai_pool ET 13 91 = some (1, 94, 0, 0) := by decide +kernel
theorem pl13_94 : ai_pool ET 13 94 = some (1, 215, 0, 0) := by decide +kernel
theorem pl13_95 : ai_pool ET 13 95 = some (1, 96, 0, 0) := by decide +kernel
theorem pl13_98 : ai_pool ET 13 98 = some (1, 210, 0, 0) := by decide +kernel
theorem pl13_99 : ai_pool ET 13 99 = some (1, 97, 1, 0) := by decide +kernel
theorem pl13_102 : ai_pool ET 13 102 = some (1, 214, 1, 0) := by decide +kernel
theorem pl13_103 : ai_pool ET 13 103 = some (1, 98, 0, 0) := by decide +kernel
theorem pl13_106 : ai_pool ET 13 106 = some (1, 235, 0, 0) := by decide +kernel
theorem pl13_107 : ai_pool ET 13 107 = some (1, 99, 0, 0) := by decide +kernel
theorem pl13_110 : ai_pool ET 13 110 = some (1, 236, 0, 0) := by decide +kernel
theorem pl13_111 : ai_pool ET 13 111 = some (1, 104, 1, 0) := by decide +kernel
theorem pl13_114 : ai_pool ET 13 114 = some (1, 241, 1, 0) := by decide +kernel
theorem pl13_115 : ai_pool ET 13 115 = some (1, 105, 1, 0) := by decide +kernel
theorem pl13_118 : ai_pool ET 13 118 = some (1, 242, 1, 0) := by decide +kernel
theorem pl13_119 : ai_pool ET 13 119 = some (1, 110, 1, 0) := by decide +kernel
theorem pl13_122 : ai_pool ET 13 122 = some (1, 243, 1, 0) := by decide +kernel
theorem pl13_123 : ai_pool ET 13 123 = some (1, 111, 1, 0) := by decide +kernel
theorem pl13_126 : ai_pool ET 13 126 = some (1, 244, 1, 0) := by decide +kernel
theorem pl13_127 : ai_pool ET 13 127 = some (9, 0, 0, 0) := by decide +kernel
theorem pl13_130 : ai_pool ET 13 130 = some (1, 245, 5, 0) := by decide +kernel
theorem pl13_131 : ai_pool ET 13 131 = some (1, 112, 5, 0) := by decide +kernel
theorem pl13_134 : ai_pool ET 13 134 = some (1, 250, 5, 0) := by decide +kernel
theorem pl13_135 : ai_pool ET 13 135 = some (1, 116, 3, 0) := by decide +kernel
theorem pl13_138 : ai_pool ET 13 138 = some (1, 251, 3, 0) := by decide +kernel
theorem pl13_139 : ai_pool ET 13 139 = some (1, 117, 2, 0) := by decide +kernel
theorem pl13_142 : ai_pool ET 13 142 = some (1, 252, 2, 0) := by decide +kernel
theorem pl13_143 : ai_pool ET 13 143 = some (1, 118, 2, 0) := by decide +kernel
theorem pl13_146 : ai_pool ET 13 146 = some (1, 253, 2, 0) := by decide +kernel
theorem pl13_147 : ai_pool ET 13 147 = some (1, 120, 1, 0) := by decide +kernel
theorem pl13_150 : ai_pool ET 13 150 = some (1, 255, 1, 0) := by decide +kernel
theorem pl13_151 : ai_pool ET 13 151 = some (1, 121, 0, 0) := by decide +kernel
theorem pl13_154 : ai_pool ET 13 154 = some (1, 256, 0, 0) := by decide +kernel
theorem pl13_155 : ai_pool ET 13 155 = some (1, 133, 2, 0) := by decide +kernel
theorem pl13_158 : ai_pool ET 13 158 = some (1, 262, 2, 0) := by decide +kernel
theorem pl13_159 : ai_pool ET 13 159 = some (1, 135, 3, 0) := by decide +kernel
theorem pl13_162 : ai_pool ET 13 162 = some (1, 263, 3, 0) := by decide +kernel
theorem pl13_163 : ai_pool ET 13 163 = some (1, 139, 3, 0) := by decide +kernel
theorem pl13_166 : ai_pool ET 13 166 = some (1, 266, 3, 0) := by decide +kernel
theorem pl13_167 : ai_pool ET 13 167 = some (1, 140, 1, 0) := by decide +kernel
theorem pl13_170 : ai_pool ET 13 170 = some (1, 269, 1, 0) := by decide +kernel
theorem pl13_171 : ai_pool ET 13 171 = some (1, 143, 1, 0) := by decide +kernel
theorem pl13_174 : ai_pool ET 13 174 = some (1, 271, 1, 0) := by decide +kernel
theorem pl13_175 : ai_pool ET 13 175 = some (1, 154, 1, 0) := by decide +kernel
theorem pl13_178 : ai_pool ET 13 178 = some (1, 275, 1, 0) := by decide +kernel
theorem pl13_179 : ai_pool ET 13 179 = some (1, 155, 0, 0) := by decide +kernel
theorem pl13_182 : ai_pool ET 13 182 = some (1, 276, 0, 0) := by decide +kernel
theorem pl13_183 : ai_pool ET 13 183 = some (1, 164, 1, 0) := by decide +kernel
theorem pl13_186 : ai_pool ET 13 186 = some (1, 283, 1, 0) := by decide +kernel
theorem pl13_187 : ai_pool ET 13 187 = some (1, 170, 1, 0) := by decide +kernel
theorem pl13_190 : ai_pool ET 13 190 = some (1, 286, 1, 0) := by decide +kernel
theorem pl13_191 : ai_pool ET 13 191 = some (1, 171, 1, 0) := by decide +kernel
theorem pl13_194 : ai_pool ET 13 194 = some (1, 287, 1, 0) := by decide +kernel
theorem pl13_195 : ai_pool ET 13 195 = some (1, 172, 1, 0) := by decide +kernel
theorem pl13_198 : ai_pool ET 13 198 = some (1, 288, 1, 0) := by decide +kernel
theorem pl14_265 : ai_pool ET 14 265 = some (7, 1431655765, 0, 0) := by decide +kernel
theorem pl14_266 : ai_pool ET 14 266 = some (7, 858993459, 0, 0) := by decide +kernel
theorem pl14_267 : ai_pool ET 14 267 = some (7, 252645135, 0, 0) := by decide +kernel
theorem nf0 : ai_nf ET 0 = 10 := by decide +kernel
theorem ft0_0 : ai_fty ET 0 0 = .array .int := rfl
theorem ft0_1 : ai_fty ET 0 1 = .array .int := rfl
theorem ft0_2 : ai_fty ET 0 2 = .array .int := rfl
theorem ft0_3 : ai_fty ET 0 3 = .array .int := rfl
theorem ft0_4 : ai_fty ET 0 4 = .int := rfl
theorem ft0_5 : ai_fty ET 0 5 = .boolean := rfl
theorem ft0_6 : ai_fty ET 0 6 = .int := rfl
theorem ft0_7 : ai_fty ET 0 7 = .int := rfl
theorem ft0_8 : ai_fty ET 0 8 = .int := rfl
theorem ft0_9 : ai_fty ET 0 9 = .int := rfl
theorem nf1 : ai_nf ET 1 = 13 := by decide +kernel
theorem ft1_0 : ai_fty ET 1 0 = .array .long := rfl
theorem ft1_1 : ai_fty ET 1 1 = .array .int := rfl
theorem ft1_2 : ai_fty ET 1 2 = .array .int := rfl
theorem ft1_3 : ai_fty ET 1 3 = .array .long := rfl
theorem ft1_4 : ai_fty ET 1 4 = .array .int := rfl
theorem ft1_5 : ai_fty ET 1 5 = .array .int := rfl
theorem ft1_6 : ai_fty ET 1 6 = .array .int := rfl
theorem ft1_7 : ai_fty ET 1 7 = .int := rfl
theorem ft1_8 : ai_fty ET 1 8 = .int := rfl
theorem ft1_9 : ai_fty ET 1 9 = .int := rfl
theorem ft1_10 : ai_fty ET 1 10 = .int := rfl
theorem ft1_11 : ai_fty ET 1 11 = .int := rfl
theorem ft1_12 : ai_fty ET 1 12 = .int := rfl
theorem nf2 : ai_nf ET 2 = 4 := by decide +kernel
theorem ft2_0 : ai_fty ET 2 0 = .array .int := rfl
theorem ft2_1 : ai_fty ET 2 1 = .array .int := rfl
theorem ft2_2 : ai_fty ET 2 2 = .int := rfl
theorem ft2_3 : ai_fty ET 2 3 = .int := rfl
theorem nf3 : ai_nf ET 3 = 14 := by decide +kernel
theorem ft3_0 : ai_fty ET 3 0 = .object "EarTown$Charter" := rfl
theorem ft3_1 : ai_fty ET 3 1 = .array .int := rfl
theorem ft3_2 : ai_fty ET 3 2 = .array .int := rfl
theorem ft3_3 : ai_fty ET 3 3 = .array .int := rfl
theorem ft3_4 : ai_fty ET 3 4 = .array .int := rfl
theorem ft3_5 : ai_fty ET 3 5 = .array .int := rfl
theorem ft3_6 : ai_fty ET 3 6 = .array .int := rfl
theorem ft3_7 : ai_fty ET 3 7 = .array .int := rfl
theorem ft3_8 : ai_fty ET 3 8 = .array .int := rfl
theorem ft3_9 : ai_fty ET 3 9 = .int := rfl
theorem ft3_10 : ai_fty ET 3 10 = .int := rfl
theorem ft3_11 : ai_fty ET 3 11 = .int := rfl
theorem ft3_12 : ai_fty ET 3 12 = .int := rfl
theorem ft3_13 : ai_fty ET 3 13 = .int := rfl
theorem nf4 : ai_nf ET 4 = 4 := by decide +kernel
theorem ft4_0 : ai_fty ET 4 0 = .array .int := rfl
theorem ft4_1 : ai_fty ET 4 1 = .array .int := rfl
theorem ft4_2 : ai_fty ET 4 2 = .array .int := rfl
theorem ft4_3 : ai_fty ET 4 3 = .int := rfl
theorem nf5 : ai_nf ET 5 = 3 := by decide +kernel
theorem ft5_0 : ai_fty ET 5 0 = .array (.object "EarTown$Life") := rfl
theorem ft5_1 : ai_fty ET 5 1 = .int := rfl
theorem ft5_2 : ai_fty ET 5 2 = .int := rfl
theorem nf6 : ai_nf ET 6 = 3 := by decide +kernel
theorem ft6_0 : ai_fty ET 6 0 = .object "EarTown$Charter" := rfl
theorem ft6_1 : ai_fty ET 6 1 = .object "EarTown$Life" := rfl
theorem ft6_2 : ai_fty ET 6 2 = .object "EarTown$Sentence" := rfl
theorem nf7 : ai_nf ET 7 = 10 := by decide +kernel
theorem ft7_0 : ai_fty ET 7 0 = .array .byte := rfl
theorem ft7_1 : ai_fty ET 7 1 = .int := rfl
theorem ft7_2 : ai_fty ET 7 2 = .int := rfl
theorem ft7_3 : ai_fty ET 7 3 = .int := rfl
theorem ft7_4 : ai_fty ET 7 4 = .int := rfl
theorem ft7_5 : ai_fty ET 7 5 = .int := rfl
theorem ft7_6 : ai_fty ET 7 6 = .int := rfl
theorem ft7_7 : ai_fty ET 7 7 = .long := rfl
theorem ft7_8 : ai_fty ET 7 8 = .int := rfl
theorem ft7_9 : ai_fty ET 7 9 = .int := rfl
theorem nf8 : ai_nf ET 8 = 6 := by decide +kernel
theorem ft8_0 : ai_fty ET 8 0 = .array .int := rfl
theorem ft8_1 : ai_fty ET 8 1 = .array .int := rfl
theorem ft8_2 : ai_fty ET 8 2 = .array .int := rfl
theorem ft8_3 : ai_fty ET 8 3 = .array .int := rfl
theorem ft8_4 : ai_fty ET 8 4 = .int := rfl
theorem ft8_5 : ai_fty ET 8 5 = .int := rfl
theorem nf9 : ai_nf ET 9 = 7 := by decide +kernel
theorem ft9_0 : ai_fty ET 9 0 = .array .int := rfl
theorem ft9_1 : ai_fty ET 9 1 = .array .int := rfl
theorem ft9_2 : ai_fty ET 9 2 = .array .int := rfl
theorem ft9_3 : ai_fty ET 9 3 = .int := rfl
theorem ft9_4 : ai_fty ET 9 4 = .int := rfl
theorem ft9_5 : ai_fty ET 9 5 = .int := rfl
theorem ft9_6 : ai_fty ET 9 6 = .int := rfl
theorem nf10 : ai_nf ET 10 = 2 := by decide +kernel
theorem ft10_0 : ai_fty ET 10 0 = .boolean := rfl
theorem ft10_1 : ai_fty ET 10 1 = .boolean := rfl
theorem nf11 : ai_nf ET 11 = 18 := by decide +kernel
theorem ft11_0 : ai_fty ET 11 0 = .array .byte := rfl
theorem ft11_1 : ai_fty ET 11 1 = .object "EarTown$Reader" := rfl
theorem ft11_2 : ai_fty ET 11 2 = .object "EarTown$TownReader" := rfl
theorem ft11_3 : ai_fty ET 11 3 = .object "EarTown$Place" := rfl
theorem ft11_4 : ai_fty ET 11 4 = .object "EarTown$Place" := rfl
theorem ft11_5 : ai_fty ET 11 5 = .array (.object "EarTown$Place") := rfl
theorem ft11_6 : ai_fty ET 11 6 = .array .boolean := rfl
theorem ft11_7 : ai_fty ET 11 7 = .object "EarTown$Life" := rfl
theorem ft11_8 : ai_fty ET 11 8 = .object "EarTown$Past" := rfl
theorem ft11_9 : ai_fty ET 11 9 = .object "EarTown$Book" := rfl
theorem ft11_10 : ai_fty ET 11 10 = .object "EarTown$Hours" := rfl
theorem ft11_11 : ai_fty ET 11 11 = .object "EarTown$Market" := rfl
theorem ft11_12 : ai_fty ET 11 12 = .object "EarTown$TalkSets" := rfl
theorem ft11_13 : ai_fty ET 11 13 = .array .int := rfl
theorem ft11_14 : ai_fty ET 11 14 = .int := rfl
theorem ft11_15 : ai_fty ET 11 15 = .int := rfl
theorem ft11_16 : ai_fty ET 11 16 = .int := rfl
theorem ft11_17 : ai_fty ET 11 17 = .int := rfl
theorem nf12 : ai_nf ET 12 = 65 := by decide +kernel
theorem ft12_0 : ai_fty ET 12 0 = .int := rfl
theorem ft12_1 : ai_fty ET 12 1 = .array .byte := rfl
theorem ft12_2 : ai_fty ET 12 2 = .int := rfl
theorem ft12_3 : ai_fty ET 12 3 = .int := rfl
theorem ft12_4 : ai_fty ET 12 4 = .int := rfl
theorem ft12_5 : ai_fty ET 12 5 = .int := rfl
theorem ft12_6 : ai_fty ET 12 6 = .array .int := rfl
theorem ft12_7 : ai_fty ET 12 7 = .array .int := rfl
theorem ft12_8 : ai_fty ET 12 8 = .array .int := rfl
theorem ft12_9 : ai_fty ET 12 9 = .array .long := rfl
theorem ft12_10 : ai_fty ET 12 10 = .array .long := rfl
theorem ft12_11 : ai_fty ET 12 11 = .int := rfl
theorem ft12_12 : ai_fty ET 12 12 = .int := rfl
theorem ft12_13 : ai_fty ET 12 13 = .int := rfl
theorem ft12_14 : ai_fty ET 12 14 = .int := rfl
theorem ft12_15 : ai_fty ET 12 15 = .int := rfl
theorem ft12_16 : ai_fty ET 12 16 = .int := rfl
theorem ft12_17 : ai_fty ET 12 17 = .long := rfl
theorem ft12_18 : ai_fty ET 12 18 = .int := rfl
theorem ft12_19 : ai_fty ET 12 19 = .int := rfl
theorem ft12_20 : ai_fty ET 12 20 = .boolean := rfl
theorem ft12_21 : ai_fty ET 12 21 = .boolean := rfl
theorem ft12_22 : ai_fty ET 12 22 = .array .int := rfl
theorem ft12_23 : ai_fty ET 12 23 = .array .int := rfl
theorem ft12_24 : ai_fty ET 12 24 = .int := rfl
theorem ft12_25 : ai_fty ET 12 25 = .int := rfl
theorem ft12_26 : ai_fty ET 12 26 = .array .int := rfl
theorem ft12_27 : ai_fty ET 12 27 = .array .int := rfl
theorem ft12_28 : ai_fty ET 12 28 = .int := rfl
theorem ft12_29 : ai_fty ET 12 29 = .boolean := rfl
theorem ft12_30 : ai_fty ET 12 30 = .int := rfl
theorem ft12_31 : ai_fty ET 12 31 = .array .int := rfl
theorem ft12_32 : ai_fty ET 12 32 = .array .int := rfl
theorem ft12_33 : ai_fty ET 12 33 = .array .int := rfl
theorem ft12_34 : ai_fty ET 12 34 = .int := rfl
theorem ft12_35 : ai_fty ET 12 35 = .array .int := rfl
theorem ft12_36 : ai_fty ET 12 36 = .array .int := rfl
theorem ft12_37 : ai_fty ET 12 37 = .array .int := rfl
theorem ft12_38 : ai_fty ET 12 38 = .int := rfl
theorem ft12_39 : ai_fty ET 12 39 = .array .int := rfl
theorem ft12_40 : ai_fty ET 12 40 = .array .int := rfl
theorem ft12_41 : ai_fty ET 12 41 = .array .int := rfl
theorem ft12_42 : ai_fty ET 12 42 = .array .int := rfl
theorem ft12_43 : ai_fty ET 12 43 = .array .int := rfl
theorem ft12_44 : ai_fty ET 12 44 = .int := rfl
theorem ft12_45 : ai_fty ET 12 45 = .int := rfl
theorem ft12_46 : ai_fty ET 12 46 = .int := rfl
theorem ft12_47 : ai_fty ET 12 47 = .array .int := rfl
theorem ft12_48 : ai_fty ET 12 48 = .array .int := rfl
theorem ft12_49 : ai_fty ET 12 49 = .array .int := rfl
theorem ft12_50 : ai_fty ET 12 50 = .int := rfl
theorem ft12_51 : ai_fty ET 12 51 = .int := rfl
theorem ft12_52 : ai_fty ET 12 52 = .int := rfl
theorem ft12_53 : ai_fty ET 12 53 = .array .int := rfl
theorem ft12_54 : ai_fty ET 12 54 = .boolean := rfl
theorem ft12_55 : ai_fty ET 12 55 = .array .int := rfl
theorem ft12_56 : ai_fty ET 12 56 = .int := rfl
theorem ft12_57 : ai_fty ET 12 57 = .int := rfl
theorem ft12_58 : ai_fty ET 12 58 = .int := rfl
theorem ft12_59 : ai_fty ET 12 59 = .int := rfl
theorem ft12_60 : ai_fty ET 12 60 = .boolean := rfl
theorem ft12_61 : ai_fty ET 12 61 = .array .boolean := rfl
theorem ft12_62 : ai_fty ET 12 62 = .array .int := rfl
theorem ft12_63 : ai_fty ET 12 63 = .array .long := rfl
theorem ft12_64 : ai_fty ET 12 64 = .array .boolean := rfl
