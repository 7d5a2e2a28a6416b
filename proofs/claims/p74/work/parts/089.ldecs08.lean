theorem dL_law_1904 : decode cL_law 1904 = .ok (.iload_n 3, 1) := by decide +kernel
theorem dL_law_1905 : decode cL_law 1905 = .ok (.iconst 1, 1) := by decide +kernel
theorem dL_law_1906 : decode cL_law 1906 = .ok (.iadd, 1) := by decide +kernel
theorem dL_law_1907 : decode cL_law 1907 = .ok (.iaload, 1) := by decide +kernel
theorem dL_law_1908 : decode cL_law 1908 = .ok (.aload_n 0, 1) := by decide +kernel
theorem dL_law_1909 : decode cL_law 1909 = .ok (.iload_n 3, 1) := by decide +kernel
theorem dL_law_1910 : decode cL_law 1910 = .ok (.iconst 2, 1) := by decide +kernel
theorem dL_law_1911 : decode cL_law 1911 = .ok (.iadd, 1) := by decide +kernel
theorem dL_law_1912 : decode cL_law 1912 = .ok (.iaload, 1) := by decide +kernel
theorem dL_law_1913 : decode cL_law 1913 = .ok (.aload_n 0, 1) := by decide +kernel
theorem dL_law_1914 : decode cL_law 1914 = .ok (.iload_n 3, 1) := by decide +kernel
theorem dL_law_1915 : decode cL_law 1915 = .ok (.iconst 3, 1) := by decide +kernel
theorem dL_law_1916 : decode cL_law 1916 = .ok (.iadd, 1) := by decide +kernel
theorem dL_law_1917 : decode cL_law 1917 = .ok (.iaload, 1) := by decide +kernel
theorem dL_law_1918 : decode cL_law 1918 = .ok (.invokevirtual 279, 3) := by decide +kernel
theorem dL_law_1921 : decode cL_law 1921 = .ok (.pop, 1) := by decide +kernel
theorem dL_law_1922 : decode cL_law 1922 = .ok (.goto 347, 3) := by decide +kernel
theorem dL_law_1925 : decode cL_law 1925 = .ok (.aload_n 1, 1) := by decide +kernel
theorem dL_law_1926 : decode cL_law 1926 = .ok (.aload_n 0, 1) := by decide +kernel
theorem dL_law_1927 : decode cL_law 1927 = .ok (.iload_n 3, 1) := by decide +kernel
theorem dL_law_1928 : decode cL_law 1928 = .ok (.iconst 1, 1) := by decide +kernel
theorem dL_law_1929 : decode cL_law 1929 = .ok (.iadd, 1) := by decide +kernel
theorem dL_law_1930 : decode cL_law 1930 = .ok (.iaload, 1) := by decide +kernel
theorem dL_law_1931 : decode cL_law 1931 = .ok (.aload_n 0, 1) := by decide +kernel
theorem dL_law_1932 : decode cL_law 1932 = .ok (.iload_n 3, 1) := by decide +kernel
theorem dL_law_1933 : decode cL_law 1933 = .ok (.iconst 2, 1) := by decide +kernel
theorem dL_law_1934 : decode cL_law 1934 = .ok (.iadd, 1) := by decide +kernel
theorem dL_law_1935 : decode cL_law 1935 = .ok (.iaload, 1) := by decide +kernel
theorem dL_law_1936 : decode cL_law 1936 = .ok (.aload_n 0, 1) := by decide +kernel
theorem dL_law_1937 : decode cL_law 1937 = .ok (.iload_n 3, 1) := by decide +kernel
theorem dL_law_1938 : decode cL_law 1938 = .ok (.iconst 3, 1) := by decide +kernel
theorem dL_law_1939 : decode cL_law 1939 = .ok (.iadd, 1) := by decide +kernel
theorem dL_law_1940 : decode cL_law 1940 = .ok (.iaload, 1) := by decide +kernel
theorem dL_law_1941 : decode cL_law 1941 = .ok (.aload_n 0, 1) := by decide +kernel
theorem dL_law_1942 : decode cL_law 1942 = .ok (.iload_n 3, 1) := by decide +kernel
theorem dL_law_1943 : decode cL_law 1943 = .ok (.iconst 4, 1) := by decide +kernel
theorem dL_law_1944 : decode cL_law 1944 = .ok (.iadd, 1) := by decide +kernel
theorem dL_law_1945 : decode cL_law 1945 = .ok (.iaload, 1) := by decide +kernel
theorem dL_law_1946 : decode cL_law 1946 = .ok (.aload_n 0, 1) := by decide +kernel
theorem dL_law_1947 : decode cL_law 1947 = .ok (.iload_n 3, 1) := by decide +kernel
theorem dL_law_1948 : decode cL_law 1948 = .ok (.iconst 5, 1) := by decide +kernel
theorem dL_law_1949 : decode cL_law 1949 = .ok (.iadd, 1) := by decide +kernel
theorem dL_law_1950 : decode cL_law 1950 = .ok (.iaload, 1) := by decide +kernel
theorem dL_law_1951 : decode cL_law 1951 = .ok (.invokevirtual 280, 3) := by decide +kernel
theorem dL_law_1954 : decode cL_law 1954 = .ok (.pop, 1) := by decide +kernel
theorem dL_law_1955 : decode cL_law 1955 = .ok (.aload_n 2, 1) := by decide +kernel
theorem dL_law_1956 : decode cL_law 1956 = .ok (.aload_n 0, 1) := by decide +kernel
theorem dL_law_1957 : decode cL_law 1957 = .ok (.iload_n 3, 1) := by decide +kernel
theorem dL_law_1958 : decode cL_law 1958 = .ok (.iconst 1, 1) := by decide +kernel
theorem dL_law_1959 : decode cL_law 1959 = .ok (.iadd, 1) := by decide +kernel
theorem dL_law_1960 : decode cL_law 1960 = .ok (.iaload, 1) := by decide +kernel
theorem dL_law_1961 : decode cL_law 1961 = .ok (.aload_n 0, 1) := by decide +kernel
theorem dL_law_1962 : decode cL_law 1962 = .ok (.iload_n 3, 1) := by decide +kernel
theorem dL_law_1963 : decode cL_law 1963 = .ok (.iconst 2, 1) := by decide +kernel
theorem dL_law_1964 : decode cL_law 1964 = .ok (.iadd, 1) := by decide +kernel
theorem dL_law_1965 : decode cL_law 1965 = .ok (.iaload, 1) := by decide +kernel
theorem dL_law_1966 : decode cL_law 1966 = .ok (.aload_n 0, 1) := by decide +kernel
theorem dL_law_1967 : decode cL_law 1967 = .ok (.iload_n 3, 1) := by decide +kernel
theorem dL_law_1968 : decode cL_law 1968 = .ok (.iconst 3, 1) := by decide +kernel
theorem dL_law_1969 : decode cL_law 1969 = .ok (.iadd, 1) := by decide +kernel
theorem dL_law_1970 : decode cL_law 1970 = .ok (.iaload, 1) := by decide +kernel
theorem dL_law_1971 : decode cL_law 1971 = .ok (.aload_n 0, 1) := by decide +kernel
theorem dL_law_1972 : decode cL_law 1972 = .ok (.iload_n 3, 1) := by decide +kernel
theorem dL_law_1973 : decode cL_law 1973 = .ok (.iconst 4, 1) := by decide +kernel
theorem dL_law_1974 : decode cL_law 1974 = .ok (.iadd, 1) := by decide +kernel
theorem dL_law_1975 : decode cL_law 1975 = .ok (.iaload, 1) := by decide +kernel
theorem dL_law_1976 : decode cL_law 1976 = .ok (.aload_n 0, 1) := by decide +kernel
theorem dL_law_1977 : decode cL_law 1977 = .ok (.iload_n 3, 1) := by decide +kernel
theorem dL_law_1978 : decode cL_law 1978 = .ok (.iconst 5, 1) := by decide +kernel
theorem dL_law_1979 : decode cL_law 1979 = .ok (.iadd, 1) := by decide +kernel
theorem dL_law_1980 : decode cL_law 1980 = .ok (.iaload, 1) := by decide +kernel
theorem dL_law_1981 : decode cL_law 1981 = .ok (.invokevirtual 283, 3) := by decide +kernel
theorem dL_law_1984 : decode cL_law 1984 = .ok (.pop, 1) := by decide +kernel
theorem dL_law_1985 : decode cL_law 1985 = .ok (.goto 284, 3) := by decide +kernel
theorem dL_law_1988 : decode cL_law 1988 = .ok (.aload_n 1, 1) := by decide +kernel
theorem dL_law_1989 : decode cL_law 1989 = .ok (.aload_n 0, 1) := by decide +kernel
theorem dL_law_1990 : decode cL_law 1990 = .ok (.iload_n 3, 1) := by decide +kernel
theorem dL_law_1991 : decode cL_law 1991 = .ok (.iconst 1, 1) := by decide +kernel
theorem dL_law_1992 : decode cL_law 1992 = .ok (.iadd, 1) := by decide +kernel
theorem dL_law_1993 : decode cL_law 1993 = .ok (.iaload, 1) := by decide +kernel
theorem dL_law_1994 : decode cL_law 1994 = .ok (.aload_n 0, 1) := by decide +kernel
theorem dL_law_1995 : decode cL_law 1995 = .ok (.iload_n 3, 1) := by decide +kernel
theorem dL_law_1996 : decode cL_law 1996 = .ok (.iconst 2, 1) := by decide +kernel
theorem dL_law_1997 : decode cL_law 1997 = .ok (.iadd, 1) := by decide +kernel
theorem dL_law_1998 : decode cL_law 1998 = .ok (.iaload, 1) := by decide +kernel
theorem dL_law_1999 : decode cL_law 1999 = .ok (.invokevirtual 284, 3) := by decide +kernel
theorem dL_law_2002 : decode cL_law 2002 = .ok (.pop, 1) := by decide +kernel
theorem dL_law_2003 : decode cL_law 2003 = .ok (.aload_n 2, 1) := by decide +kernel
theorem dL_law_2004 : decode cL_law 2004 = .ok (.aload_n 0, 1) := by decide +kernel
theorem dL_law_2005 : decode cL_law 2005 = .ok (.iload_n 3, 1) := by decide +kernel
theorem dL_law_2006 : decode cL_law 2006 = .ok (.iconst 1, 1) := by decide +kernel
theorem dL_law_2007 : decode cL_law 2007 = .ok (.iadd, 1) := by decide +kernel
theorem dL_law_2008 : decode cL_law 2008 = .ok (.iaload, 1) := by decide +kernel
theorem dL_law_2009 : decode cL_law 2009 = .ok (.aload_n 0, 1) := by decide +kernel
theorem dL_law_2010 : decode cL_law 2010 = .ok (.iload_n 3, 1) := by decide +kernel
theorem dL_law_2011 : decode cL_law 2011 = .ok (.iconst 2, 1) := by decide +kernel
theorem dL_law_2012 : decode cL_law 2012 = .ok (.iadd, 1) := by decide +kernel
theorem dL_law_2013 : decode cL_law 2013 = .ok (.iaload, 1) := by decide +kernel
theorem dL_law_2014 : decode cL_law 2014 = .ok (.invokevirtual 287, 3) := by decide +kernel
theorem dL_law_2017 : decode cL_law 2017 = .ok (.pop, 1) := by decide +kernel
theorem dL_law_2018 : decode cL_law 2018 = .ok (.goto 251, 3) := by decide +kernel
theorem dL_law_2021 : decode cL_law 2021 = .ok (.aload_n 1, 1) := by decide +kernel
theorem dL_law_2022 : decode cL_law 2022 = .ok (.aload_n 0, 1) := by decide +kernel
theorem dL_law_2023 : decode cL_law 2023 = .ok (.iload_n 3, 1) := by decide +kernel
theorem dL_law_2024 : decode cL_law 2024 = .ok (.iconst 1, 1) := by decide +kernel
theorem dL_law_2025 : decode cL_law 2025 = .ok (.iadd, 1) := by decide +kernel
theorem dL_law_2026 : decode cL_law 2026 = .ok (.iaload, 1) := by decide +kernel
theorem dL_law_2027 : decode cL_law 2027 = .ok (.invokevirtual 288, 3) := by decide +kernel
theorem dL_law_2030 : decode cL_law 2030 = .ok (.pop, 1) := by decide +kernel
theorem dL_law_2031 : decode cL_law 2031 = .ok (.aload_n 2, 1) := by decide +kernel
theorem dL_law_2032 : decode cL_law 2032 = .ok (.aload_n 0, 1) := by decide +kernel
theorem dL_law_2033 : decode cL_law 2033 = .ok (.iload_n 3, 1) := by decide +kernel
theorem dL_law_2034 : decode cL_law 2034 = .ok (.iconst 1, 1) := by decide +kernel
theorem dL_law_2035 : decode cL_law 2035 = .ok (.iadd, 1) := by decide +kernel
theorem dL_law_2036 : decode cL_law 2036 = .ok (.iaload, 1) := by decide +kernel
theorem dL_law_2037 : decode cL_law 2037 = .ok (.invokevirtual 291, 3) := by decide +kernel
theorem dL_law_2040 : decode cL_law 2040 = .ok (.pop, 1) := by decide +kernel
theorem dL_law_2041 : decode cL_law 2041 = .ok (.goto 228, 3) := by decide +kernel
theorem dL_law_2044 : decode cL_law 2044 = .ok (.aload_n 1, 1) := by decide +kernel
theorem dL_law_2045 : decode cL_law 2045 = .ok (.aload_n 0, 1) := by decide +kernel
theorem dL_law_2046 : decode cL_law 2046 = .ok (.iload_n 3, 1) := by decide +kernel
theorem dL_law_2047 : decode cL_law 2047 = .ok (.iconst 1, 1) := by decide +kernel
theorem dL_law_2048 : decode cL_law 2048 = .ok (.iadd, 1) := by decide +kernel
theorem dL_law_2049 : decode cL_law 2049 = .ok (.iaload, 1) := by decide +kernel
theorem dL_law_2050 : decode cL_law 2050 = .ok (.invokevirtual 292, 3) := by decide +kernel
theorem dL_law_2053 : decode cL_law 2053 = .ok (.pop, 1) := by decide +kernel
theorem dL_law_2054 : decode cL_law 2054 = .ok (.aload_n 2, 1) := by decide +kernel
theorem dL_law_2055 : decode cL_law 2055 = .ok (.aload_n 0, 1) := by decide +kernel
theorem dL_law_2056 : decode cL_law 2056 = .ok (.iload_n 3, 1) := by decide +kernel
theorem dL_law_2057 : decode cL_law 2057 = .ok (.iconst 1, 1) := by decide +kernel
theorem dL_law_2058 : decode cL_law 2058 = .ok (.iadd, 1) := by decide +kernel
theorem dL_law_2059 : decode cL_law 2059 = .ok (.iaload, 1) := by decide +kernel
theorem dL_law_2060 : decode cL_law 2060 = .ok (.invokevirtual 295, 3) := by decide +kernel
theorem dL_law_2063 : decode cL_law 2063 = .ok (.pop, 1) := by decide +kernel
theorem dL_law_2064 : decode cL_law 2064 = .ok (.goto 205, 3) := by decide +kernel
theorem dL_law_2067 : decode cL_law 2067 = .ok (.aload_n 1, 1) := by decide +kernel
theorem dL_law_2068 : decode cL_law 2068 = .ok (.aload_n 0, 1) := by decide +kernel
theorem dL_law_2069 : decode cL_law 2069 = .ok (.iload_n 3, 1) := by decide +kernel
theorem dL_law_2070 : decode cL_law 2070 = .ok (.iconst 1, 1) := by decide +kernel
theorem dL_law_2071 : decode cL_law 2071 = .ok (.iadd, 1) := by decide +kernel
theorem dL_law_2072 : decode cL_law 2072 = .ok (.iaload, 1) := by decide +kernel
theorem dL_law_2073 : decode cL_law 2073 = .ok (.invokevirtual 296, 3) := by decide +kernel
theorem dL_law_2076 : decode cL_law 2076 = .ok (.pop, 1) := by decide +kernel
theorem dL_law_2077 : decode cL_law 2077 = .ok (.aload_n 2, 1) := by decide +kernel
theorem dL_law_2078 : decode cL_law 2078 = .ok (.aload_n 0, 1) := by decide +kernel
theorem dL_law_2079 : decode cL_law 2079 = .ok (.iload_n 3, 1) := by decide +kernel
theorem dL_law_2080 : decode cL_law 2080 = .ok (.iconst 1, 1) := by decide +kernel
theorem dL_law_2081 : decode cL_law 2081 = .ok (.iadd, 1) := by decide +kernel
theorem dL_law_2082 : decode cL_law 2082 = .ok (.iaload, 1) := by decide +kernel
theorem dL_law_2083 : decode cL_law 2083 = .ok (.invokevirtual 299, 3) := by decide +kernel
